import java.lang.reflect.Method;
import java.util.ArrayList;
import java.util.HashMap;
import java.util.List;
import java.util.Map;
import java.util.Random;
import java.util.Set;
import java.util.TreeSet;

/** Many runs of calls, each answer compared with that of the plain model; always the same runs. */
final class ModelTests {
  private static final int RUNS = 3000;
  private static final int CALLS = 512;

  /** What each method's arguments are: see argument(). */
  private static final Map<String, String> ARGUMENTS = new HashMap<>();

  /**
   * How often each method is called, first in the part that builds, then behind it, and behind it
   * in the runs in which tracks are played often and years pass.
   */
  private static final Map<String, int[]> WEIGHTS = new HashMap<>();

  /** What the answers that were due have been: the methods' names, and what they threw. */
  private static final Set<String> MET = new TreeSet<>();

  static {
    put("addTrack", "LR", 12, 3);
    put("removeTrack", "t", 1, 2);
    put("setRating", "tR", 2, 6);
    put("play", "t", 6, 10);
    put("pass", "D", 2, 3);
    put("addTag", "", 6, 1);
    put("letter", "gc", 8, 2);
    put("tag", "tg", 12, 3);
    put("untag", "tg", 2, 2);
    put("tidy", "gg", 3, 6);
    put("undoTidy", "", 2, 6);
    put("hasTag", "g", 4, 1);
    put("rated", "R", 3, 1);
    put("playedAtMost", "P", 2, 1);
    put("asLongAs", "L", 2, 1);
    put("playedWithin", "W", 2, 1);
    put("inList", "l", 5, 1);
    put("both", "rr", 4, 1);
    put("either", "rr", 4, 1);
    put("not", "r", 4, 1);
    put("addList", "rOM", 6, 1);
    put("setRule", "lr", 3, 8);
    put("setOrder", "lO", 2, 5);
    put("setLimit", "lM", 2, 6);
    put("lengthOf", "t", 1, 1);
    put("ratingOf", "t", 1, 1);
    put("playsOf", "t", 1, 1);
    put("playedLast", "t", 1, 1);
    put("tagBits", "t", 1, 4);
    put("nameLength", "g", 1, 1);
    put("nameAt", "gi", 1, 1);
    put("distance", "gg", 1, 1);
    put("distanceByTrying", "gg", 1, 1);
    put("nearest", "g", 1, 1);
    put("sizeOf", "r", 1, 1);
    put("holds", "rt", 1, 4);
    put("matches", "l", 1, 2);
    put("size", "l", 1, 2);
    put("trackAt", "lk", 1, 8);
    put("contains", "lt", 1, 4);
    put("containsByRounds", "lt", 1, 4);
    put("secondsOf", "l", 1, 2);
    put("common", "ll", 1, 2);
    put("dependsOn", "ll", 1, 2);
    put("touched", "", 1, 8);
    put("mixes", "l", 1, 2);
    put("seconds", "", 1, 1);
    put("listedShare", "", 1, 2);
    put("meanLength", "l", 1, 2);
    put("tracks", "", 1, 1);
    put("today", "", 1, 1);
  }

  private ModelTests() {}

  private static void put(String name, String arguments, int building, int behind) {
    ARGUMENTS.put(name, arguments);
    int wearing = name.equals("play") ? 100 : name.equals("pass") ? 20 : 1;
    WEIGHTS.put(name, new int[] {building, behind, wearing});
  }

  static void run() {
    Check.test("the model has the face's methods", ModelTests::sameMethods);
    Check.test("all promises: runs compared with the model", ModelTests::compareRuns);
    Check.test("the runs meet every answer and exception", ModelTests::meetEverything);
  }

  private static void sameMethods() {
    List<String> face = new ArrayList<>();
    List<String> model = new ArrayList<>();
    Answers.methodsOf(Smartcrate.class).forEach(method -> face.add(method.getName()));
    Answers.methodsOf(PlainModel.class).forEach(method -> model.add(method.getName()));
    Check.due(face, model);
    Check.due(face.size(), ARGUMENTS.size());
  }

  private static void compareRuns() {
    List<Method> face = Answers.methodsOf(Smartcrate.class);
    List<Method> model = Answers.methodsOf(PlainModel.class);
    List<List<Integer>> choices = List.of(choices(face, 0), choices(face, 1), choices(face, 2));
    for (int run = 0; run < RUNS; run++) {
      if (!sameRun(run, face, model, choices)) {
        return;
      }
    }
  }

  /** A run that never meets a case compares nothing of it. */
  private static void meetEverything() {
    for (Method method : Answers.methodsOf(Smartcrate.class)) {
      meet(method.getName());
      for (Class<?> type : method.getExceptionTypes()) {
        // 999 plays are more than the calls of a run: TrackTests asks for them.
        if (!(method.getName().equals("play") && type == IllegalStateException.class)) {
          meet(method.getName() + " throws." + type.getName());
        }
      }
    }
  }

  private static void meet(String answer) {
    if (!MET.contains(answer)) {
      Check.fail("no run meets " + answer);
    }
  }

  private static List<Integer> choices(List<Method> face, int part) {
    List<Integer> choices = new ArrayList<>();
    for (int i = 0; i < face.size(); i++) {
      for (int weight = WEIGHTS.get(face.get(i).getName())[part]; weight > 0; weight--) {
        choices.add(i);
      }
    }
    return choices;
  }

  private static boolean sameRun(
      int run, List<Method> face, List<Method> model, List<List<Integer>> choices) {
    Random random = new Random(run);
    Smartcrate crate = new Smartcrate();
    PlainModel plain = new PlainModel();
    int building = 100 + random.nextInt(150);
    // Some runs ask for what is out of range more often than others.
    int wild = 5 + random.nextInt(60);
    int behind = run % 8 == 7 ? 2 : 1;
    for (int call = 0; call < CALLS; call++) {
      List<Integer> from = choices.get(call < building ? 0 : behind);
      int chosen = from.get(random.nextInt(from.size()));
      String kinds = ARGUMENTS.get(face.get(chosen).getName());
      int[] arguments = new int[kinds.length()];
      for (int i = 0; i < arguments.length; i++) {
        arguments[i] = argument(random, plain, kinds.charAt(i), wild);
      }
      String got = Answers.to(crate, face.get(chosen), arguments);
      String due = Answers.to(plain, model.get(chosen), arguments);
      MET.add(face.get(chosen).getName() + (due.startsWith("throws.") ? " " + due : ""));
      if (!got.equals(due)) {
        Check.fail("run " + run + ", call " + call + ", " + face.get(chosen).getName()
            + java.util.Arrays.toString(arguments) + " answered " + got + ", due is " + due);
        return false;
      }
    }
    return true;
  }

  /** Mostly a number that was given, seldom the next one, and often one of the first or last. */
  private static int number(Random random, int given, int odd) {
    if (given == 0 || odd == 1) {
      return given;
    }
    int near = random.nextInt(Math.min(given, 5));
    return odd % 4 == 2 ? near : odd % 4 == 3 ? given - 1 - near : random.nextInt(given);
  }

  /** An argument of a kind, mostly in its range and sometimes at its ends or outside. */
  private static int argument(Random random, PlainModel plain, char kind, int wild) {
    int odd = random.nextInt(wild);
    if (odd == 0) {
      int[] outside = {-1, Integer.MIN_VALUE, Integer.MAX_VALUE, 24, 16, 40, 8, 6, 1000, 10000, 0};
      return outside[random.nextInt(outside.length)];
    }
    switch (kind) {
      case 'L':
        return odd == 1 ? 999 : 1 + random.nextInt(odd % 2 == 0 ? 4 : 300);
      case 'R':
        return random.nextInt(6);
      case 'D':
        return odd < 4 ? 365 : 1 + random.nextInt(odd % 2 == 0 ? 3 : 365);
      case 'P':
        return odd == 1 ? 999 : random.nextInt(4);
      case 'W':
        return odd < 4 ? 999 : random.nextInt(odd % 2 == 0 ? 4 : 900);
      case 'M':
        return odd % 3 == 0 ? 0 : odd == 1 ? 9999 : random.nextInt(odd % 3 == 1 ? 10 : 1200);
      case 't': case 'g': case 'r': case 'l':
        return number(random, plain.given(kind), odd);
      case 'k':
        return random.nextInt(odd % 2 == 0 ? 3 : 24);
      case 'i':
        return random.nextInt(6);
      case 'c':
        return 'a' + random.nextInt(odd % 2 == 0 ? 2 : 26);
      default:
        return "srpn".charAt(random.nextInt(4));
    }
  }
}
