import java.util.NoSuchElementException;

/** Promises 13 to 21, 38 and 39: rules. */
final class RuleTests {
  private static final Class<NoSuchElementException> NONE = NoSuchElementException.class;
  private static final Class<IllegalArgumentException> RANGE = IllegalArgumentException.class;
  private static final Class<IllegalStateException> STATE = IllegalStateException.class;
  private static final Class<UnsupportedOperationException> GREAT =
      UnsupportedOperationException.class;
  private static final int LOW = Integer.MIN_VALUE;
  private static final int HIGH = Integer.MAX_VALUE;

  private RuleTests() {}

  static void run() {
    Check.test("promise 13: hasTag", RuleTests::hasTag);
    Check.test("promise 14: rated", RuleTests::rated);
    Check.test("promise 15: playedAtMost", RuleTests::playedAtMost);
    Check.test("promise 16: asLongAs", RuleTests::asLongAs);
    Check.test("promise 17: playedWithin", RuleTests::playedWithin);
    Check.test("promise 18: inList", RuleTests::inList);
    Check.test("promise 19: both", RuleTests::both);
    Check.test("promise 20: either", RuleTests::either);
    Check.test("promise 21: not", RuleTests::not);
    Check.test("promises 13 to 21: at most 40 rules", RuleTests::atMostForty);
    Check.test("promises 19 to 21: sizes", RuleTests::greatestSizes);
    Check.test("promise 38: sizeOf", RuleTests::sizeOf);
    Check.test("promise 39: holds", RuleTests::holds);
  }

  /** A library with the tracks 0, 1 and 2: 100 s and 1, 200 s and 3, 300 s and 5. */
  private static Smartcrate three() {
    Smartcrate x = new Smartcrate();
    x.addTrack(100, 1);
    x.addTrack(200, 3);
    x.addTrack(300, 5);
    return x;
  }

  private static void dueHeld(Smartcrate x, int rule, boolean zero, boolean one, boolean two) {
    Check.due(zero, x.holds(rule, 0));
    Check.due(one, x.holds(rule, 1));
    Check.due(two, x.holds(rule, 2));
  }

  private static void hasTag() {
    Smartcrate x = three();
    x.addTag();
    x.addTag();
    x.addTag();
    x.tag(1, 1);
    x.tag(2, 0);
    Check.due(0, x.hasTag(1));
    Check.due(1, x.hasTag(0));
    dueHeld(x, 0, false, true, false);
    dueHeld(x, 1, false, false, true);
    for (int tag : new int[] {-1, 3, 15, 16, LOW, HIGH}) {
      Check.refused(x, NONE, () -> x.hasTag(tag));
    }
    x.tidy(0, 2);
    Check.refused(x, NONE, () -> x.hasTag(2));
    x.untag(1, 1);
    dueHeld(x, 0, false, false, false);
  }

  private static void rated() {
    Smartcrate x = three();
    Check.due(0, x.rated(0));
    Check.due(1, x.rated(3));
    Check.due(2, x.rated(5));
    dueHeld(x, 0, true, true, true);
    dueHeld(x, 1, false, true, true);
    dueHeld(x, 2, false, false, true);
    x.setRating(0, 3);
    dueHeld(x, 1, true, true, true);
    for (int least : new int[] {-1, 6, LOW, HIGH}) {
      Check.refused(x, RANGE, () -> x.rated(least));
    }
  }

  private static void playedAtMost() {
    Smartcrate x = three();
    Check.due(0, x.playedAtMost(0));
    Check.due(1, x.playedAtMost(1));
    Check.due(2, x.playedAtMost(999));
    x.play(1);
    x.play(2);
    x.play(2);
    dueHeld(x, 0, true, false, false);
    dueHeld(x, 1, true, true, false);
    dueHeld(x, 2, true, true, true);
    for (int most : new int[] {-1, 1000, LOW, HIGH}) {
      Check.refused(x, RANGE, () -> x.playedAtMost(most));
    }
  }

  private static void asLongAs() {
    Smartcrate x = three();
    Check.due(0, x.asLongAs(1));
    Check.due(1, x.asLongAs(200));
    Check.due(2, x.asLongAs(199));
    Check.due(3, x.asLongAs(999));
    dueHeld(x, 0, false, false, false);
    dueHeld(x, 1, true, true, false);
    dueHeld(x, 2, true, false, false);
    dueHeld(x, 3, true, true, true);
    for (int most : new int[] {0, -1, 1000, LOW, HIGH}) {
      Check.refused(x, RANGE, () -> x.asLongAs(most));
    }
  }

  private static void playedWithin() {
    Smartcrate x = three();
    Check.due(0, x.playedWithin(0));
    Check.due(1, x.playedWithin(2));
    Check.due(2, x.playedWithin(999));
    x.play(0);
    dueHeld(x, 0, true, false, false);
    x.pass(1);
    x.play(1);
    dueHeld(x, 0, false, true, false);
    x.pass(1);
    dueHeld(x, 1, true, true, false);
    x.pass(1);
    dueHeld(x, 1, false, true, false);
    dueHeld(x, 2, true, true, false);
    x.pass(365);
    x.pass(365);
    x.pass(266);
    Check.due(999, x.today());
    dueHeld(x, 2, true, true, false);
    x.pass(1);
    dueHeld(x, 2, false, true, false);
    for (int days : new int[] {-1, 1000, LOW, HIGH}) {
      Check.refused(x, RANGE, () -> x.playedWithin(days));
    }
  }

  private static void inList() {
    Smartcrate x = three();
    x.rated(3);
    x.addList(0, 'r', 300);
    Check.due(1, x.inList(0));
    // The track 1 is a match, but there is no room for it.
    dueHeld(x, 0, false, true, true);
    dueHeld(x, 1, false, false, true);
    x.setLimit(0, 0);
    dueHeld(x, 1, false, true, true);
    for (int list : new int[] {-1, 1, 7, 8, LOW, HIGH}) {
      Check.refused(x, NONE, () -> x.inList(list));
    }
  }

  private static void both() {
    Smartcrate x = three();
    x.rated(3);
    x.asLongAs(200);
    Check.due(2, x.both(0, 1));
    Check.due(3, x.both(1, 1));
    dueHeld(x, 2, false, true, false);
    dueHeld(x, 3, true, true, false);
    for (int rule : new int[] {-1, 4, 39, 40, LOW, HIGH}) {
      Check.refused(x, NONE, () -> x.both(0, rule));
      Check.refused(x, NONE, () -> x.both(rule, 0));
      Check.refused(x, NONE, () -> x.both(rule, rule));
    }
  }

  private static void either() {
    Smartcrate x = three();
    x.rated(5);
    x.asLongAs(100);
    Check.due(2, x.either(0, 1));
    Check.due(3, x.either(1, 1));
    x.asLongAs(300);
    Check.due(5, x.either(0, 4));
    dueHeld(x, 2, true, false, true);
    dueHeld(x, 3, true, false, false);
    dueHeld(x, 5, true, true, true);
    for (int rule : new int[] {-1, 6, 39, 40, LOW, HIGH}) {
      Check.refused(x, NONE, () -> x.either(0, rule));
      Check.refused(x, NONE, () -> x.either(rule, 0));
      Check.refused(x, NONE, () -> x.either(rule, rule));
    }
  }

  private static void not() {
    Smartcrate x = three();
    x.rated(3);
    Check.due(1, x.not(0));
    Check.due(2, x.not(1));
    dueHeld(x, 1, true, false, false);
    dueHeld(x, 2, false, true, true);
    for (int rule : new int[] {-1, 3, 39, 40, LOW, HIGH}) {
      Check.refused(x, NONE, () -> x.not(rule));
    }
  }

  private static void atMostForty() {
    Smartcrate x = three();
    x.addTag();
    x.rated(0);
    x.addList(0, 's', 0);
    for (int rule = 1; rule < 14; rule++) {
      Check.due(rule, x.not(rule - 1));
    }
    x.both(6, 6);
    for (int rule = 15; rule < 40; rule++) {
      Check.due(rule, x.rated(rule % 6));
    }
    Check.refused(x, STATE, () -> x.hasTag(0));
    Check.refused(x, STATE, () -> x.rated(0));
    Check.refused(x, STATE, () -> x.playedAtMost(0));
    Check.refused(x, STATE, () -> x.asLongAs(1));
    Check.refused(x, STATE, () -> x.playedWithin(0));
    Check.refused(x, STATE, () -> x.inList(0));
    Check.refused(x, STATE, () -> x.both(0, 39));
    Check.refused(x, STATE, () -> x.either(0, 39));
    Check.refused(x, STATE, () -> x.not(39));
    Check.refused(x, NONE, () -> x.hasTag(1));
    Check.refused(x, RANGE, () -> x.rated(6));
    Check.refused(x, RANGE, () -> x.playedAtMost(-1));
    Check.refused(x, RANGE, () -> x.asLongAs(0));
    Check.refused(x, RANGE, () -> x.playedWithin(-1));
    Check.refused(x, NONE, () -> x.inList(1));
    Check.refused(x, NONE, () -> x.both(0, 40));
    Check.refused(x, NONE, () -> x.either(40, 0));
    Check.refused(x, NONE, () -> x.not(40));
    Check.refused(x, GREAT, () -> x.both(14, 14));
    Check.refused(x, GREAT, () -> x.either(14, 14));
    Check.refused(x, GREAT, () -> x.not(14));
  }

  private static void greatestSizes() {
    Smartcrate x = three();
    x.rated(3);
    for (int rule = 1; rule < 14; rule++) {
      x.not(rule - 1);
    }
    Check.due(14, x.sizeOf(13));
    Check.refused(x, GREAT, () -> x.both(13, 0));
    Check.refused(x, GREAT, () -> x.both(0, 13));
    Check.refused(x, GREAT, () -> x.either(7, 6));
    Check.due(14, x.both(12, 0));
    Check.due(15, x.either(6, 6));
    Check.due(16, x.not(13));
    Check.due(15, x.sizeOf(14));
    Check.due(15, x.sizeOf(15));
    Check.due(15, x.sizeOf(16));
    Check.refused(x, GREAT, () -> x.not(16));
    dueHeld(x, 16, false, true, true);
    dueHeld(x, 14, false, true, true);
  }

  private static void sizeOf() {
    Smartcrate x = three();
    x.addTag();
    x.hasTag(0);
    x.rated(1);
    x.playedAtMost(1);
    x.asLongAs(1);
    x.playedWithin(1);
    x.addList(x.both(0, 0), 's', 0);
    x.inList(0);
    for (int rule : new int[] {0, 1, 2, 3, 4, 6}) {
      Check.due(1, x.sizeOf(rule));
    }
    Check.due(3, x.sizeOf(5));
    Check.due(4, x.sizeOf(x.not(5)));
    Check.due(6, x.sizeOf(x.either(1, 7)));
    Check.due(13, x.sizeOf(x.both(8, 8)));
    for (int rule : new int[] {-1, 10, 39, 40, LOW, HIGH}) {
      Check.refused(x, NONE, () -> x.sizeOf(rule));
    }
  }

  private static void holds() {
    Smartcrate x = three();
    x.rated(3);
    x.asLongAs(200);
    x.not(x.either(x.both(0, 1), x.playedAtMost(0)));
    x.play(2);
    x.play(0);
    dueHeld(x, 5, true, false, true);
    for (int rule : new int[] {-1, 6, 39, 40, LOW, HIGH}) {
      Check.refused(x, NONE, () -> x.holds(rule, 0));
    }
    for (int track : new int[] {-1, 3, 23, 24, 32, LOW, HIGH}) {
      Check.refused(x, NONE, () -> x.holds(0, track));
    }
    x.removeTrack(1);
    Check.refused(x, NONE, () -> x.holds(0, 1));
  }
}
