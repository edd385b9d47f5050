import java.util.ArrayList;
import java.util.Arrays;
import java.util.List;
import java.util.NoSuchElementException;

/**
 * A library in a told state. It is made anew for each thing that is asked, so that no run is longer
 * than the 512 calls for which the document promises answers, and no question spoils another one.
 */
final class Scene {
  interface Steps {
    void on(Smartcrate x);
  }

  interface Call {
    Object on(Smartcrate x);
  }

  interface Numbered {
    Object on(Smartcrate x, int number);
  }

  static final Class<NoSuchElementException> NONE = NoSuchElementException.class;
  static final Class<IllegalArgumentException> RANGE = IllegalArgumentException.class;
  static final Class<IllegalStateException> STATE = IllegalStateException.class;
  static final Class<UnsupportedOperationException> UNFIT = UnsupportedOperationException.class;
  static final Class<IndexOutOfBoundsException> INDEX = IndexOutOfBoundsException.class;
  static final Class<ArithmeticException> SUM = ArithmeticException.class;

  static final int LOW = Integer.MIN_VALUE;
  static final int HIGH = Integer.MAX_VALUE;

  private static final int QUESTIONS_A_RUN = 100;

  /** Runs of changes whose answers tell what no question can ask for. */
  private static final List<List<Call>> CHANGES =
      List.of(undoing(), adding(), setting(), playing());

  private static final int[] NO_NUMBERS = {-1, -32, LOW, LOW + 1, HIGH, HIGH - 31, 256, 65536};

  /**
   * Five tracks of which 1 and 4 are removed; three tags of which 1 became 0, which can be undone;
   * five rules; two lists, of which 1 asks for 0. Both were changed by the latest change.
   */
  static final Scene SMALL = new Scene(Scene::stockSmall);

  /** As many tracks, tags, rules and lists as there can be, and none of them gone. */
  static final Scene FULL = new Scene(Scene::stockFull);

  private final Steps[] steps;

  /** All answers of this state; null until they are needed. */
  private List<String> answers = null;

  Scene(Steps... steps) {
    this.steps = steps;
  }

  /** The same with more steps behind. */
  Scene then(Steps more) {
    Steps[] longer = Arrays.copyOf(steps, steps.length + 1);
    longer[steps.length] = more;
    return new Scene(longer);
  }

  Smartcrate make() {
    Smartcrate x = new Smartcrate();
    for (Steps step : steps) {
      step.on(x);
    }
    return x;
  }

  private static void stockSmall(Smartcrate x) {
    x.addTrack(200, 3);
    x.addTrack(300, 5);
    x.addTrack(100, 1);
    x.addTrack(250, 5);
    name(x, "a");
    name(x, "b");
    name(x, "ab");
    x.tag(0, 0);
    x.tag(2, 1);
    x.tag(3, 2);
    x.rated(0);
    x.addList(0, 's', 0);
    x.hasTag(1);
    x.not(x.inList(0));
    x.both(0, 1);
    x.addList(3, 'r', 400);
    x.play(0);
    x.pass(5);
    x.play(2);
    x.tidy(0, 1);
    x.removeTrack(1);
    x.removeTrack(x.addTrack(1, 1));
    x.setLimit(0, 449);
  }

  private static void stockFull(Smartcrate x) {
    for (int track = 0; track < 24; track++) {
      x.addTrack(100 + track % 5, track % 6);
    }
    for (int tag = 0; tag < 16; tag++) {
      x.addTag();
      x.letter(tag, (char) ('a' + tag % 3));
      x.tag(tag, tag);
    }
    x.rated(1);
    for (int list = 0; list < 8; list++) {
      x.addList(list == 0 ? 0 : x.not(x.inList(list - 1)), "srpn".charAt(list % 4), list * 600);
    }
    for (int rule = 15; rule < 40; rule++) {
      x.hasTag(rule % 16);
    }
    x.tidy(0, 3);
    x.undoTidy();
    x.play(23);
    x.setRating(23, 0);
  }

  /** Adds a tag of this name. */
  static int name(Smartcrate x, String letters) {
    int tag = x.addTag();
    for (char letter : letters.toCharArray()) {
      x.letter(tag, letter);
    }
    return tag;
  }

  void due(Object due, Call call) {
    Check.due(due, call.on(make()));
  }

  /** The call must throw exactly this exception, and every answer must be as it was ahead of it. */
  void refused(Class<? extends RuntimeException> type, Call call) {
    if (Check.thrown(type, () -> call.on(make()))) {
      Check.sameLines(allAnswers(), tell(call));
    }
  }

  /** The call must be answered, whatever the answer is. */
  void allowed(Call call) {
    try {
      call.on(make());
    } catch (RuntimeException e) {
      Check.fail("threw " + e + ", due is an answer" + Check.at());
    }
  }

  /** Both ends of a range are allowed, and the numbers beside them are refused. */
  void range(int least, int most, Numbered call) {
    allowed(x -> call.on(x, least));
    allowed(x -> call.on(x, most));
    for (int wrong : new int[] {least - 1, most + 1, LOW, HIGH, LOW + most, HIGH - 1}) {
      refused(RANGE, x -> call.on(x, wrong));
    }
  }

  static void noTrack(Numbered call) {
    there(SMALL, call, 0, 2, 3);
    there(FULL, call, 0, 23);
    none(SMALL, call, 1, 4, 5, 23, 24, 32, 33);
    none(FULL, call, 24, 32, 55, 56);
    none(new Scene(), call, 0, 23);
  }

  static void noTag(Numbered call) {
    there(SMALL, call, 0, 2);
    there(FULL, call, 0, 15);
    none(SMALL, call, 1, 3, 15, 16, 32, 33);
    none(FULL, call, 16, 17, 32, 47, 48);
    none(new Scene(), call, 0, 15);
  }

  static void noRule(Numbered call) {
    there(SMALL, call, 0, 4);
    there(FULL, call, 0, 39);
    none(SMALL, call, 5, 6, 39, 40, 32);
    none(FULL, call, 40, 41, 64);
    none(new Scene(), call, 0, 39);
  }

  static void noList(Numbered call) {
    there(SMALL, call, 0, 1);
    there(FULL, call, 0, 7);
    none(SMALL, call, 2, 3, 7, 8, 32, 33);
    none(FULL, call, 8, 9, 32, 39, 40);
    none(new Scene(), call, 0, 7);
  }

  private static void there(Scene scene, Numbered call, int... numbers) {
    for (int number : numbers) {
      try {
        call.on(scene.make(), number);
      } catch (NoSuchElementException e) {
        Check.fail("threw " + e + ", but there is a number " + number + Check.at());
      } catch (RuntimeException e) {
        // What else may be refused is for other tests to tell.
        continue;
      }
    }
  }

  private static void none(Scene scene, Numbered call, int... numbers) {
    for (int number : numbers) {
      scene.refused(NONE, x -> call.on(x, number));
    }
    for (int number : NO_NUMBERS) {
      scene.refused(NONE, x -> call.on(x, number));
    }
  }

  // All answers

  private List<String> allAnswers() {
    if (answers == null) {
      answers = tell(null);
    }
    return answers;
  }

  private Smartcrate makeWith(Call refused) {
    Smartcrate x = make();
    if (refused != null) {
      told(x, refused);
    }
    return x;
  }

  private List<String> tell(Call refused) {
    List<String> lines = new ArrayList<>();
    Smartcrate x = null;
    for (int i = 0; i < Answers.ALL.size(); i++) {
      if (i % QUESTIONS_A_RUN == 0) {
        x = makeWith(refused);
      }
      lines.add(Answers.ALL.get(i).answerOf(x));
    }
    for (List<Call> changes : CHANGES) {
      x = makeWith(refused);
      for (int i = 0; i < changes.size(); i++) {
        lines.add("change " + i + " behind it answered " + told(x, changes.get(i)));
      }
    }
    return lines;
  }

  private static String told(Smartcrate x, Call call) {
    try {
      return String.valueOf(call.on(x));
    } catch (RuntimeException e) {
      return "throws." + e.getClass().getName();
    }
  }

  private static List<Call> undoing() {
    List<Call> calls = new ArrayList<>();
    for (int times = 0; times < 3; times++) {
      calls.add(x -> x.undoTidy());
      for (int track = 0; track < 24; track++) {
        int asked = track;
        calls.add(x -> x.tagBits(asked));
      }
    }
    return calls;
  }

  private static List<Call> adding() {
    List<Call> calls = new ArrayList<>();
    calls.add(x -> x.addTrack(999, 5));
    calls.add(x -> x.addTag());
    for (int tag = 0; tag < 16; tag++) {
      int asked = tag;
      calls.add(x -> x.letter(asked, 'q'));
      calls.add(x -> x.nameAt(asked, x.nameLength(asked) - 1));
    }
    calls.add(x -> x.rated(5));
    calls.add(x -> x.not(0));
    calls.add(x -> x.addList(0, 'n', 0));
    return calls;
  }

  private static List<Call> setting() {
    List<Call> calls = new ArrayList<>();
    for (int list = 0; list < 8; list++) {
      int asked = list;
      calls.add(x -> x.setRule(asked, 0));
      calls.add(x -> x.touched());
      calls.add(x -> x.setOrder(asked, 'n'));
      calls.add(x -> x.touched());
      calls.add(x -> x.setLimit(asked, 100));
      calls.add(x -> x.touched());
    }
    return calls;
  }

  private static List<Call> playing() {
    List<Call> calls = new ArrayList<>();
    for (int track = 0; track < 24; track++) {
      int asked = track;
      calls.add(x -> x.play(asked));
      calls.add(x -> x.setRating(asked, 2));
    }
    calls.add(x -> x.pass(1));
    calls.add(x -> x.seconds());
    calls.add(x -> x.removeTrack(0));
    return calls;
  }
}
