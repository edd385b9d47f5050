import java.io.IOException;
import java.lang.reflect.Constructor;
import java.lang.reflect.Field;
import java.lang.reflect.Method;
import java.lang.reflect.Modifier;
import java.nio.charset.StandardCharsets;
import java.nio.file.Files;
import java.nio.file.Path;
import java.util.ArrayList;
import java.util.Arrays;
import java.util.Collections;
import java.util.List;
import java.util.TreeSet;

/** The face that the document gives, and what can be seen of the language's rules. */
final class FaceTests {
  private static final String[] FACE = {
    "int addTrack(int,int) IllegalArgumentException IllegalStateException",
    "int removeTrack(int) NoSuchElementException",
    "int setRating(int,int) NoSuchElementException IllegalArgumentException",
    "int play(int) NoSuchElementException IllegalStateException",
    "int pass(int) IllegalArgumentException IllegalStateException",
    "int addTag() IllegalStateException",
    "int letter(int,char) NoSuchElementException IllegalArgumentException IllegalStateException",
    "int tag(int,int) NoSuchElementException IllegalStateException",
    "int untag(int,int) NoSuchElementException IllegalStateException",
    "int tidy(int,int) NoSuchElementException IllegalArgumentException"
        + " UnsupportedOperationException",
    "int undoTidy() IllegalStateException",
    "int hasTag(int) NoSuchElementException IllegalStateException",
    "int rated(int) IllegalArgumentException IllegalStateException",
    "int playedAtMost(int) IllegalArgumentException IllegalStateException",
    "int asLongAs(int) IllegalArgumentException IllegalStateException",
    "int playedWithin(int) IllegalArgumentException IllegalStateException",
    "int inList(int) NoSuchElementException IllegalStateException",
    "int both(int,int) NoSuchElementException UnsupportedOperationException"
        + " IllegalStateException",
    "int either(int,int) NoSuchElementException UnsupportedOperationException"
        + " IllegalStateException",
    "int not(int) NoSuchElementException UnsupportedOperationException IllegalStateException",
    "int addList(int,char,int) NoSuchElementException IllegalArgumentException"
        + " IllegalStateException",
    "int setRule(int,int) NoSuchElementException UnsupportedOperationException",
    "char setOrder(int,char) NoSuchElementException IllegalArgumentException",
    "int setLimit(int,int) NoSuchElementException IllegalArgumentException",
    "int tracks()",
    "int today()",
    "int lengthOf(int) NoSuchElementException",
    "int ratingOf(int) NoSuchElementException",
    "int playsOf(int) NoSuchElementException",
    "int playedLast(int) NoSuchElementException IllegalStateException",
    "int tagBits(int) NoSuchElementException",
    "int nameLength(int) NoSuchElementException",
    "char nameAt(int,int) NoSuchElementException IndexOutOfBoundsException",
    "int distance(int,int) NoSuchElementException",
    "int distanceByTrying(int,int) NoSuchElementException",
    "int nearest(int) NoSuchElementException IllegalStateException",
    "int sizeOf(int) NoSuchElementException",
    "boolean holds(int,int) NoSuchElementException",
    "int matches(int) NoSuchElementException",
    "int size(int) NoSuchElementException",
    "int trackAt(int,int) NoSuchElementException IndexOutOfBoundsException",
    "boolean contains(int,int) NoSuchElementException",
    "boolean containsByRounds(int,int) NoSuchElementException",
    "int secondsOf(int) NoSuchElementException",
    "int common(int,int) NoSuchElementException",
    "boolean dependsOn(int,int) NoSuchElementException",
    "int touched()",
    "int mixes(int) NoSuchElementException ArithmeticException",
    "long seconds()",
    "float listedShare() ArithmeticException",
    "double meanLength(int) NoSuchElementException ArithmeticException",
  };

  private static final String[] NOT_IN_THE_LANGUAGE = {
    "->", "::", "finally", "synchronized", "assert ", "catch", "Exact(", "System.out", "package ",
    "hashCode", "toString(", "equals(", "Random", "currentTimeMillis", "nanoTime", "Math.sqrt",
  };

  private FaceTests() {}

  static void run(String path) throws IOException {
    String source = new String(Files.readAllBytes(Path.of(path)), StandardCharsets.ISO_8859_1);
    Check.test("the face's methods", FaceTests::methods);
    Check.test("the face's class and constructor", FaceTests::classAndConstructor);
    Check.test("static fields are final", FaceTests::staticFields);
    Check.test("private names", FaceTests::privateNames);
    Check.test("sizes", FaceTests::sizes);
    Check.test("the language", () -> language(source));
  }

  private static void methods() {
    TreeSet<String> got = new TreeSet<>();
    for (Method method : Answers.methodsOf(Smartcrate.class)) {
      StringBuilder line = new StringBuilder();
      line.append(method.getReturnType()).append(' ').append(method.getName()).append('(');
      List<String> parameters = new ArrayList<>();
      for (Class<?> type : method.getParameterTypes()) {
        parameters.add(type.getName());
      }
      line.append(String.join(",", parameters)).append(')');
      for (Class<?> type : method.getExceptionTypes()) {
        line.append(' ').append(type.getSimpleName());
      }
      got.add(line.toString());
    }
    Check.due(new TreeSet<>(Arrays.asList(FACE)), got);
  }

  private static void classAndConstructor() {
    Check.due(Modifier.PUBLIC | Modifier.FINAL, Smartcrate.class.getModifiers());
    Constructor<?>[] constructors = Smartcrate.class.getDeclaredConstructors();
    Check.due(1, constructors.length);
    Check.due("public Smartcrate()", constructors[0].toString());
    for (Method method : Smartcrate.class.getDeclaredMethods()) {
      int modifiers = method.getModifiers();
      Check.due(true, Modifier.isPublic(modifiers) || Modifier.isPrivate(modifiers));
    }
    for (Class<?> inside : Smartcrate.class.getDeclaredClasses()) {
      Check.due(true, Modifier.isStatic(inside.getModifiers()));
      Check.due(false, Modifier.isPublic(inside.getModifiers()));
    }
  }

  private static void staticFields() {
    for (Field field : Smartcrate.class.getDeclaredFields()) {
      Check.due(true, Modifier.isPrivate(field.getModifiers()));
      if (Modifier.isStatic(field.getModifiers())) {
        Check.due(true, Modifier.isFinal(field.getModifiers()));
      }
    }
  }

  private static void privateNames() {
    List<String> open = new ArrayList<>();
    List<String> hidden = new ArrayList<>();
    for (Method method : Smartcrate.class.getDeclaredMethods()) {
      (Modifier.isPublic(method.getModifiers()) ? open : hidden).add(method.getName());
    }
    Check.due(true, Collections.disjoint(open, hidden));
  }

  /** At most seven parameters, some twelve classes, and some twenty fields beside constants. */
  private static void sizes() {
    List<Class<?>> classes = new ArrayList<>();
    classes.add(Smartcrate.class);
    classes.addAll(Arrays.asList(Smartcrate.class.getDeclaredClasses()));
    Check.due(true, classes.size() <= 12);
    for (Class<?> type : classes) {
      for (Method method : type.getDeclaredMethods()) {
        Check.due(true, method.getParameterCount() <= 7);
      }
      int fields = 0;
      for (Field field : type.getDeclaredFields()) {
        fields += Modifier.isStatic(field.getModifiers()) ? 0 : 1;
      }
      Check.due(true, fields <= 20);
    }
  }

  private static void language(String source) {
    for (String word : NOT_IN_THE_LANGUAGE) {
      if (source.contains(word)) {
        Check.fail("Smartcrate.java holds " + word);
      }
    }
    for (String line : source.split("\n")) {
      if (line.startsWith("import ")) {
        Check.due(
            true,
            Arrays.asList("import java.util.Arrays;", "import java.util.NoSuchElementException;")
                .contains(line));
      }
    }
    for (char sign : source.toCharArray()) {
      if (sign > 126) {
        Check.fail("Smartcrate.java holds the sign " + (int) sign);
      }
    }
  }
}
