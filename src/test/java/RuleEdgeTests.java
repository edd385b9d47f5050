/** Edges in promises 13 to 21, 38 and 39: each sentence that names one has its own test. */
final class RuleEdgeTests {
  /** The rule of the number n has the size n + 1, up to 15; a tag and a list are there, too. */
  private static final Scene SIZES =
      new Scene(
          x -> {
            x.addTrack(200, 3);
            x.addTag();
            x.rated(3);
            for (int rule = 1; rule < 15; rule++) {
              x.not(rule - 1);
            }
            x.addList(0, 's', 0);
          });

  private static final Scene THIRTY_NINE = SIZES.then(x -> addRules(x, 24));
  private static final Scene FORTY = SIZES.then(x -> addRules(x, 25));

  /** Tracks of 1 s, 500 s and 999 s, rated 0, 3 and 5; the track 1 was played on the day 1. */
  private static final Scene THREE =
      new Scene(
          x -> {
            x.addTrack(1, 0);
            x.addTrack(500, 3);
            x.addTrack(999, 5);
            x.pass(1);
            x.play(1);
          });

  private RuleEdgeTests() {}

  static void run() {
    Check.test("promise 13: no such tag", RuleEdgeTests::hasTagOfNone);
    Check.test("promise 13: at most 40 rules", () -> dueForty(x -> x.hasTag(0)));
    Check.test("promise 13: no such tag ahead of 40 rules", RuleEdgeTests::hasTagNoneFirst);
    Check.test("promise 13: the first and the last tag", RuleEdgeTests::hasTagHolds);
    Check.test("promise 13: the last track", RuleEdgeTests::hasTagOfTheLast);
    Check.test("promise 14: 0 to 5", RuleEdgeTests::ratedRange);
    Check.test("promise 14: at most 40 rules", () -> dueForty(x -> x.rated(5)));
    Check.test("promise 14: a range ahead of 40 rules", RuleEdgeTests::ratedRangeFirst);
    Check.test("promise 14: at least a number", RuleEdgeTests::ratedHolds);
    Check.test("promise 15: 0 to 999", RuleEdgeTests::playedAtMostRange);
    Check.test("promise 15: at most 40 rules", () -> dueForty(x -> x.playedAtMost(999)));
    Check.test("promise 15: a range ahead of 40 rules", RuleEdgeTests::playedAtMostRangeFirst);
    Check.test("promise 15: at most a number", RuleEdgeTests::playedAtMostHolds);
    Check.test("promise 16: 1 to 999", RuleEdgeTests::asLongAsRange);
    Check.test("promise 16: at most 40 rules", () -> dueForty(x -> x.asLongAs(1)));
    Check.test("promise 16: a range ahead of 40 rules", RuleEdgeTests::asLongAsRangeFirst);
    Check.test("promise 16: at most a number", RuleEdgeTests::asLongAsHolds);
    Check.test("promise 17: 0 to 999", RuleEdgeTests::playedWithinRange);
    Check.test("promise 17: at most 40 rules", () -> dueForty(x -> x.playedWithin(0)));
    Check.test("promise 17: a range ahead of 40 rules", RuleEdgeTests::playedWithinRangeFirst);
    Check.test("promise 17: at most some days ago", RuleEdgeTests::playedWithinHolds);
    Check.test("promise 17: today", RuleEdgeTests::playedWithinToday);
    Check.test("promise 17: 999 days ago", RuleEdgeTests::playedWithinLongest);
    Check.test("promise 17: never played", RuleEdgeTests::playedWithinNever);
    Check.test("promise 18: no such list", RuleEdgeTests::inListOfNone);
    Check.test("promise 18: at most 40 rules", () -> dueForty(x -> x.inList(0)));
    Check.test("promise 18: no such list ahead of 40 rules", RuleEdgeTests::inListNoneFirst);
    Check.test("promise 18: a match that is left out", RuleEdgeTests::inListHolds);
    Check.test("promise 19: one of both does not exist", RuleEdgeTests::bothOfNone);
    Check.test("promise 19: a size of at most 15", () -> dueSizes((x, y, z) -> x.both(y, z)));
    Check.test("promise 19: at most 40 rules", () -> dueForty(x -> x.both(0, 12)));
    Check.test("promise 19: none ahead of a size", () -> dueNoneFirst((x, y, z) -> x.both(y, z)));
    Check.test("promise 19: a size ahead of 40 rules", RuleEdgeTests::bothSizeFirst);
    Check.test("promise 19: both hold, one, none", RuleEdgeTests::bothHolds);
    Check.test("promise 20: one of both does not exist", RuleEdgeTests::eitherOfNone);
    Check.test("promise 20: a size of at most 15", () -> dueSizes((x, y, z) -> x.either(y, z)));
    Check.test("promise 20: at most 40 rules", () -> dueForty(x -> x.either(12, 0)));
    Check.test("promise 20: none ahead of a size", () -> dueNoneFirst((x, y, z) -> x.either(y, z)));
    Check.test("promise 20: a size ahead of 40 rules", RuleEdgeTests::eitherSizeFirst);
    Check.test("promise 20: both hold, one, none", RuleEdgeTests::eitherHolds);
    Check.test("promise 21: no such rule", RuleEdgeTests::notOfNone);
    Check.test("promise 21: a size of at most 15", RuleEdgeTests::notSizes);
    Check.test("promise 21: at most 40 rules", () -> dueForty(x -> x.not(13)));
    Check.test("promise 21: no such rule ahead of 40 rules", RuleEdgeTests::notNoneFirst);
    Check.test("promise 21: a size ahead of 40 rules", RuleEdgeTests::notSizeFirst);
    Check.test("promise 21: it holds, it does not", RuleEdgeTests::notHolds);
    Check.test("promises 13 to 21: rules have numbers from 0", RuleEdgeTests::ruleNumbers);
    Check.test("promise 38: no such rule", RuleEdgeTests::sizeOfNone);
    Check.test("promise 38: from 1 to 15", RuleEdgeTests::sizeOf);
    Check.test("promise 38: each as often as it is named", RuleEdgeTests::sizeOfNamedOften);
    Check.test("promise 39: no such rule", RuleEdgeTests::holdsOfNoRule);
    Check.test("promise 39: no such track", RuleEdgeTests::holdsForNoTrack);
    Check.test("promise 39: the first and the last track", RuleEdgeTests::holdsForTheLast);
    Check.test("promise 39: a rule of the greatest size", RuleEdgeTests::holdsOfTheGreatest);
  }

  private interface Pairing {
    int on(Smartcrate x, int one, int other);
  }

  private static void addRules(Smartcrate x, int count) {
    for (int rule = 0; rule < count; rule++) {
      x.rated(rule % 6);
    }
  }

  /** With 39 rules there is room for one, with 40 there is none. */
  private static void dueForty(Scene.Call call) {
    SIZES.due(15, call);
    THIRTY_NINE.due(39, call);
    FORTY.refused(Scene.STATE, call);
    THIRTY_NINE.then(x -> call.on(x)).refused(Scene.STATE, call);
  }

  private static void dueHeld(Scene scene, Scene.Steps rule, boolean... due) {
    Scene ruled = scene.then(rule);
    for (int track = 0; track < due.length; track++) {
      int asked = track;
      ruled.due(due[track], x -> x.holds(0, asked));
    }
  }

  // Promises 13 to 18

  private static void hasTagOfNone() {
    Scene.noTag((x, tag) -> x.hasTag(tag));
  }

  private static void hasTagNoneFirst() {
    FORTY.refused(Scene.NONE, x -> x.hasTag(1));
    FORTY.refused(Scene.NONE, x -> x.hasTag(-1));
    Scene gone = FORTY.then(x -> x.addTag()).then(x -> x.tidy(0, 1));
    gone.refused(Scene.NONE, x -> x.hasTag(1));
  }

  private static void hasTagHolds() {
    Scene tagged =
        THREE.then(
            x -> {
              for (int tag = 0; tag < 16; tag++) {
                x.addTag();
              }
              x.tag(0, 0);
              x.tag(2, 15);
            });
    dueHeld(tagged, x -> x.hasTag(0), true, false, false);
    dueHeld(tagged, x -> x.hasTag(15), false, false, true);
    dueHeld(tagged, x -> x.hasTag(7), false, false, false);
  }

  private static void hasTagOfTheLast() {
    Scene.FULL.then(x -> x.tag(23, 7)).due(true, x -> x.holds(39, 23));
    Scene.FULL.due(false, x -> x.holds(39, 23));
    Scene last = Scene.FULL.then(x -> x.tag(23, 15)).then(x -> x.setRule(0, 15));
    last.due(2, x -> x.size(0));
    last.due(15, x -> x.trackAt(0, 0));
    last.due(23, x -> x.trackAt(0, 1));
  }

  private static void ratedRange() {
    Scene.SMALL.range(0, 5, (x, least) -> x.rated(least));
  }

  private static void ratedRangeFirst() {
    FORTY.refused(Scene.RANGE, x -> x.rated(-1));
    FORTY.refused(Scene.RANGE, x -> x.rated(6));
  }

  private static void ratedHolds() {
    dueHeld(THREE, x -> x.rated(0), true, true, true);
    dueHeld(THREE, x -> x.rated(1), false, true, true);
    dueHeld(THREE, x -> x.rated(3), false, true, true);
    dueHeld(THREE, x -> x.rated(4), false, false, true);
    dueHeld(THREE, x -> x.rated(5), false, false, true);
  }

  private static void playedAtMostRange() {
    Scene.SMALL.range(0, 999, (x, most) -> x.playedAtMost(most));
  }

  private static void playedAtMostRangeFirst() {
    FORTY.refused(Scene.RANGE, x -> x.playedAtMost(-1));
    FORTY.refused(Scene.RANGE, x -> x.playedAtMost(1000));
  }

  private static void playedAtMostHolds() {
    Scene twice = THREE.then(x -> x.play(2)).then(x -> x.play(2));
    dueHeld(twice, x -> x.playedAtMost(0), true, false, false);
    dueHeld(twice, x -> x.playedAtMost(1), true, true, false);
    dueHeld(twice, x -> x.playedAtMost(2), true, true, true);
    dueHeld(twice, x -> x.playedAtMost(999), true, true, true);
  }

  private static void asLongAsRange() {
    Scene.SMALL.range(1, 999, (x, most) -> x.asLongAs(most));
  }

  private static void asLongAsRangeFirst() {
    FORTY.refused(Scene.RANGE, x -> x.asLongAs(0));
    FORTY.refused(Scene.RANGE, x -> x.asLongAs(1000));
  }

  private static void asLongAsHolds() {
    dueHeld(THREE, x -> x.asLongAs(1), true, false, false);
    dueHeld(THREE, x -> x.asLongAs(499), true, false, false);
    dueHeld(THREE, x -> x.asLongAs(500), true, true, false);
    dueHeld(THREE, x -> x.asLongAs(998), true, true, false);
    dueHeld(THREE, x -> x.asLongAs(999), true, true, true);
  }

  private static void playedWithinRange() {
    Scene.SMALL.range(0, 999, (x, days) -> x.playedWithin(days));
  }

  private static void playedWithinRangeFirst() {
    FORTY.refused(Scene.RANGE, x -> x.playedWithin(-1));
    FORTY.refused(Scene.RANGE, x -> x.playedWithin(1000));
  }

  private static void playedWithinHolds() {
    Scene later = THREE.then(x -> x.pass(10));
    dueHeld(later, x -> x.playedWithin(9), false, false, false);
    dueHeld(later, x -> x.playedWithin(10), false, true, false);
    dueHeld(later, x -> x.playedWithin(11), false, true, false);
  }

  private static void playedWithinToday() {
    dueHeld(THREE, x -> x.playedWithin(0), false, true, false);
    dueHeld(THREE.then(x -> x.pass(1)), x -> x.playedWithin(0), false, false, false);
    Scene first = new Scene(x -> x.addTrack(1, 0), x -> x.play(0));
    dueHeld(first, x -> x.playedWithin(0), true);
  }

  private static void playedWithinLongest() {
    Scene later = THREE.then(x -> x.pass(365)).then(x -> x.pass(365)).then(x -> x.pass(269));
    dueHeld(later, x -> x.playedWithin(999), false, true, false);
    dueHeld(later, x -> x.playedWithin(998), false, false, false);
    dueHeld(later.then(x -> x.pass(1)), x -> x.playedWithin(999), false, false, false);
  }

  /** On the first days it is less than 999 days since any day that could stand for never. */
  private static void playedWithinNever() {
    Scene first = new Scene(x -> x.addTrack(1, 0));
    dueHeld(first, x -> x.playedWithin(0), false);
    dueHeld(first, x -> x.playedWithin(1), false);
    dueHeld(first, x -> x.playedWithin(999), false);
    dueHeld(first.then(x -> x.pass(1)), x -> x.playedWithin(999), false);
  }

  private static void inListOfNone() {
    Scene.noList((x, list) -> x.inList(list));
  }

  private static void inListNoneFirst() {
    FORTY.refused(Scene.NONE, x -> x.inList(1));
    FORTY.refused(Scene.NONE, x -> x.inList(-1));
    FORTY.refused(Scene.NONE, x -> x.inList(8));
  }

  private static void inListHolds() {
    Scene listed = THREE.then(x -> x.rated(0)).then(x -> x.addList(0, 'n', 999));
    Scene ruled = listed.then(x -> x.inList(0));
    ruled.due(3, x -> x.matches(0));
    ruled.due(false, x -> x.holds(1, 0));
    ruled.due(false, x -> x.holds(1, 1));
    ruled.due(true, x -> x.holds(1, 2));
    ruled.then(x -> x.setLimit(0, 1000)).due(true, x -> x.holds(1, 0));
    ruled.then(x -> x.setLimit(0, 0)).due(true, x -> x.holds(1, 1));
  }

  // Promises 19 to 21

  private static void bothOfNone() {
    Scene.noRule((x, rule) -> x.both(rule, 0));
    Scene.noRule((x, rule) -> x.both(0, rule));
    Scene.noRule((x, rule) -> x.both(rule, rule));
  }

  private static void eitherOfNone() {
    Scene.noRule((x, rule) -> x.either(rule, 0));
    Scene.noRule((x, rule) -> x.either(0, rule));
    Scene.noRule((x, rule) -> x.either(rule, rule));
  }

  private static void notOfNone() {
    Scene.noRule((x, rule) -> x.not(rule));
  }

  /** Every pair of sizes: 15 in all is allowed, 16 is refused. */
  private static void dueSizes(Pairing call) {
    for (int one = 0; one < 15; one++) {
      for (int other = 0; other < 15; other++) {
        int left = one;
        int right = other;
        int size = 1 + (one + 1) + (other + 1);
        if (size <= 15) {
          SIZES.due(size, x -> x.sizeOf(call.on(x, left, right)));
        } else {
          SIZES.refused(Scene.UNFIT, x -> call.on(x, left, right));
        }
      }
    }
  }

  /** The rule 14 is too great for any other one. */
  private static void dueNoneFirst(Pairing call) {
    for (int rule : new int[] {-1, 15, 40, Scene.LOW, Scene.HIGH}) {
      SIZES.refused(Scene.NONE, x -> call.on(x, 14, rule));
      SIZES.refused(Scene.NONE, x -> call.on(x, rule, 14));
    }
    FORTY.refused(Scene.NONE, x -> call.on(x, 14, 40));
    FORTY.refused(Scene.NONE, x -> call.on(x, 40, 14));
    FORTY.refused(Scene.NONE, x -> call.on(x, 0, 40));
    FORTY.refused(Scene.NONE, x -> call.on(x, -1, 0));
  }

  private static void bothSizeFirst() {
    FORTY.refused(Scene.UNFIT, x -> x.both(14, 0));
    FORTY.refused(Scene.UNFIT, x -> x.both(7, 6));
    FORTY.refused(Scene.STATE, x -> x.both(6, 6));
  }

  private static void eitherSizeFirst() {
    FORTY.refused(Scene.UNFIT, x -> x.either(0, 14));
    FORTY.refused(Scene.UNFIT, x -> x.either(6, 7));
    FORTY.refused(Scene.STATE, x -> x.either(6, 6));
  }

  private static void notSizes() {
    for (int rule = 0; rule < 14; rule++) {
      int asked = rule;
      SIZES.due(rule + 2, x -> x.sizeOf(x.not(asked)));
    }
    SIZES.refused(Scene.UNFIT, x -> x.not(14));
    Scene pair = SIZES.then(x -> x.both(6, 6));
    pair.refused(Scene.UNFIT, x -> x.not(15));
  }

  private static void notNoneFirst() {
    for (int rule : new int[] {-1, 40, 41, Scene.LOW, Scene.HIGH}) {
      FORTY.refused(Scene.NONE, x -> x.not(rule));
    }
  }

  private static void notSizeFirst() {
    FORTY.refused(Scene.UNFIT, x -> x.not(14));
    FORTY.refused(Scene.STATE, x -> x.not(13));
  }

  /** The rules 0 and 1 hold for the tracks 1 and 2, and for the tracks 0 and 1. */
  private static Scene crossed() {
    return THREE.then(x -> x.rated(3)).then(x -> x.asLongAs(500));
  }

  private static void dueCrossed(Scene.Call rule, boolean... due) {
    for (int track = 0; track < due.length; track++) {
      int asked = track;
      crossed().due(due[track], x -> x.holds((int) rule.on(x), asked));
    }
  }

  private static void bothHolds() {
    dueCrossed(x -> x.both(0, 1), false, true, false);
    dueCrossed(x -> x.both(1, 0), false, true, false);
    dueCrossed(x -> x.both(0, 0), false, true, true);
    dueCrossed(x -> x.both(0, x.not(0)), false, false, false);
  }

  private static void eitherHolds() {
    dueCrossed(x -> x.either(0, 1), true, true, true);
    dueCrossed(x -> x.either(1, 1), true, true, false);
    dueCrossed(x -> x.either(x.both(0, 1), x.not(0)), true, true, false);
    dueCrossed(x -> x.either(x.not(1), x.both(0, x.not(0))), false, false, true);
  }

  private static void notHolds() {
    dueCrossed(x -> x.not(0), true, false, false);
    dueCrossed(x -> x.not(x.not(0)), false, true, true);
    dueCrossed(x -> x.not(x.either(0, 1)), false, false, false);
  }

  private static void ruleNumbers() {
    Smartcrate x = SIZES.make();
    for (int rule = 15; rule < 40; rule++) {
      Check.due(rule, rule % 2 == 0 ? x.rated(0) : x.not(0));
    }
  }

  // Promises 38 and 39

  private static void sizeOfNone() {
    Scene.noRule((x, rule) -> x.sizeOf(rule));
  }

  private static void sizeOf() {
    for (int rule = 0; rule < 15; rule++) {
      int asked = rule;
      SIZES.due(rule + 1, x -> x.sizeOf(asked));
    }
    SIZES.due(1, x -> x.sizeOf(x.hasTag(0)));
    SIZES.due(1, x -> x.sizeOf(x.rated(0)));
    SIZES.due(1, x -> x.sizeOf(x.playedAtMost(0)));
    SIZES.due(1, x -> x.sizeOf(x.asLongAs(1)));
    SIZES.due(1, x -> x.sizeOf(x.playedWithin(0)));
    // However great the rule of the list is, the one that asks for the list is simple.
    SIZES.then(x -> x.setRule(0, 14)).due(1, x -> x.sizeOf(x.inList(0)));
  }

  private static void sizeOfNamedOften() {
    SIZES.due(15, x -> x.sizeOf(x.both(6, 6)));
    SIZES.due(15, x -> x.sizeOf(x.either(x.both(0, 1), x.both(3, x.both(1, 1)))));
    SIZES.refused(Scene.UNFIT, x -> x.both(7, 7));
  }

  private static void holdsOfNoRule() {
    Scene.noRule((x, rule) -> x.holds(rule, 0));
  }

  private static void holdsForNoTrack() {
    Scene.noTrack((x, track) -> x.holds(0, track));
    // A rule that something does not hold is refused for them, too.
    Scene.noTrack((x, track) -> x.holds(3, track));
  }

  private static void holdsForTheLast() {
    // In the full room the track n is rated n % 6, but for the last one, which is rated 0.
    Scene.FULL.due(false, x -> x.holds(0, 0));
    Scene.FULL.due(false, x -> x.holds(0, 23));
    Scene.FULL.due(true, x -> x.holds(0, 22));
    Scene.FULL.due(true, x -> x.holds(39, 7));
    Scene.FULL.due(false, x -> x.holds(39, 23));
  }

  private static void holdsOfTheGreatest() {
    SIZES.due(true, x -> x.holds(14, 0));
    SIZES.due(false, x -> x.holds(13, 0));
    SIZES.then(x -> x.setRating(0, 2)).due(false, x -> x.holds(14, 0));
    SIZES.then(x -> x.addTrack(1, 2)).due(false, x -> x.holds(14, 1));
  }
}
