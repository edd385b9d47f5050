import java.lang.reflect.InvocationTargetException;
import java.lang.reflect.Method;
import java.lang.reflect.Modifier;
import java.util.ArrayList;
import java.util.Arrays;
import java.util.Comparator;
import java.util.List;
import java.util.Set;

/** Calls by name, and all that an object answers at a time. */
final class Answers {
  /** The methods that only ask. */
  static final Set<String> QUESTIONS =
      Set.of(
          "tracks", "today", "lengthOf", "ratingOf", "playsOf", "playedLast", "tagBits",
          "nameLength", "nameAt", "distance", "distanceByTrying", "nearest", "sizeOf", "holds",
          "matches", "size", "trackAt", "contains", "containsByRounds", "secondsOf", "common",
          "dependsOn", "touched", "mixes", "seconds", "listedShare", "meanLength");

  /** The questions about all numbers that there can be, and one beyond. */
  static final List<Asking> ALL = all();

  /** One call of a method with its arguments. */
  static final class Asking {
    private final Method method;
    private final int[] arguments;

    Asking(Method method, int... arguments) {
      this.method = method;
      this.arguments = arguments;
    }

    String answerOf(Smartcrate crate) {
      return method.getName() + Arrays.toString(arguments) + " " + to(crate, method, arguments);
    }
  }

  private Answers() {}

  static List<Method> methodsOf(Class<?> type) {
    List<Method> methods = new ArrayList<>();
    for (Method method : type.getDeclaredMethods()) {
      if (Modifier.isPublic(method.getModifiers())) {
        method.setAccessible(true);
        methods.add(method);
      }
    }
    methods.sort(Comparator.comparing(Method::getName));
    return methods;
  }

  /** The answer of a call as a text: its type and value, or the name of what it throws. */
  static String to(Object target, Method method, int[] arguments) {
    Object[] values = new Object[arguments.length];
    for (int i = 0; i < arguments.length; i++) {
      if (method.getParameterTypes()[i] == char.class) {
        values[i] = (char) arguments[i];
      } else {
        values[i] = arguments[i];
      }
    }
    try {
      return method.getReturnType() + " " + method.invoke(target, values);
    } catch (InvocationTargetException e) {
      return "throws." + e.getCause().getClass().getName();
    } catch (IllegalAccessException e) {
      throw new IllegalStateException(e);
    }
  }

  static String of(Smartcrate crate) {
    StringBuilder all = new StringBuilder();
    for (Asking asking : ALL) {
      all.append(asking.answerOf(crate)).append('\n');
    }
    return all.toString();
  }

  private static List<Asking> all() {
    List<Asking> all = new ArrayList<>();
    for (Method method : methodsOf(Smartcrate.class)) {
      if (QUESTIONS.contains(method.getName())) {
        int[] ends = endsOf(method.getName());
        int[] arguments = new int[ends.length];
        do {
          all.add(new Asking(method, arguments.clone()));
        } while (step(arguments, ends));
      }
    }
    return all;
  }

  private static boolean step(int[] arguments, int[] ends) {
    for (int i = arguments.length - 1; i >= 0; i--) {
      arguments[i]++;
      if (arguments[i] <= ends[i]) {
        return true;
      }
      arguments[i] = 0;
    }
    return false;
  }

  private static int[] endsOf(String name) {
    switch (name) {
      case "lengthOf": case "ratingOf": case "playsOf": case "playedLast": case "tagBits":
        return new int[] {24};
      case "nameLength": case "nearest":
        return new int[] {16};
      case "nameAt":
        return new int[] {16, 6};
      case "distance":
        return new int[] {16, 16};
      case "distanceByTrying":
        // Two tags are enough here: this one is slow, and must be the same as distance anyway.
        return new int[] {1, 1};
      case "sizeOf":
        return new int[] {40};
      case "holds":
        return new int[] {40, 24};
      case "matches": case "size": case "secondsOf": case "mixes": case "meanLength":
        return new int[] {8};
      case "trackAt": case "contains": case "containsByRounds":
        return new int[] {8, 24};
      case "common": case "dependsOn":
        return new int[] {8, 8};
      default:
        return new int[0];
    }
  }
}
