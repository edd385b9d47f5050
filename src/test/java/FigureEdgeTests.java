import java.util.Arrays;

/** Edges in promises 48, 49, 51 and 52: each sentence that names one has its own test. */
final class FigureEdgeTests {
  /** The rules of one(). */
  private static final int EVERY = 0;
  private static final int NO_TRACK = 1;
  private static final int HAS_ZERO = 2;
  private static final int HAS_ONE = 3;
  private static final int GOOD = 4;
  private static final int UNPLAYED = 5;
  private static final int TODAY = 6;

  /** Eight lists of all tracks in the four orders, each without a limit and with 999 seconds. */
  private static final Scene EIGHT =
      new Scene(
          x -> {
            x.addTrack(500, 3);
            x.rated(0);
            for (int list = 0; list < 8; list++) {
              x.addList(0, "srpn".charAt(list % 4), list < 4 ? 0 : 999);
            }
          });

  private FigureEdgeTests() {}

  static void run() {
    Check.test("promise 48: 0 if there was no such call", FigureEdgeTests::touchedByNone);
    Check.test("promise 48: no list, some, and all lists", FigureEdgeTests::touchedAll);
    Check.test("promise 48: behind addTrack", FigureEdgeTests::touchedByAddTrack);
    Check.test("promise 48: behind removeTrack", FigureEdgeTests::touchedByRemoveTrack);
    Check.test("promise 48: behind setRating", FigureEdgeTests::touchedBySetRating);
    Check.test("promise 48: behind play", FigureEdgeTests::touchedByPlay);
    Check.test("promise 48: behind pass", FigureEdgeTests::touchedByPass);
    Check.test("promise 48: behind tag", FigureEdgeTests::touchedByTag);
    Check.test("promise 48: behind untag", FigureEdgeTests::touchedByUntag);
    Check.test("promise 48: behind tidy", FigureEdgeTests::touchedByTidy);
    Check.test("promise 48: behind undoTidy", FigureEdgeTests::touchedByUndoTidy);
    Check.test("promise 48: behind setRule", FigureEdgeTests::touchedBySetRule);
    Check.test("promise 48: behind setOrder", FigureEdgeTests::touchedBySetOrder);
    Check.test("promise 48: behind setLimit", FigureEdgeTests::touchedBySetLimit);
    Check.test("promise 48: other calls leave it alone", FigureEdgeTests::touchedByOthers);
    Check.test("promise 48: refused calls leave it alone", FigureEdgeTests::touchedByRefused);
    Check.test("promise 48: another order is no other set", FigureEdgeTests::touchedByOrder);
    Check.test("promise 48: another set of the same size", FigureEdgeTests::touchedSameSize);
    Check.test("promise 48: a list that asks for a list", FigureEdgeTests::touchedAlong);
    Check.test("promise 49: no such list", FigureEdgeTests::mixesOfNone);
    Check.test("promise 49: 1 for a list without tracks", FigureEdgeTests::mixesOfNoTracks);
    Check.test("promise 49: tracks without plays", FigureEdgeTests::mixesWithoutPlays);
    Check.test("promise 49: the greatest product", FigureEdgeTests::mixesGreatest);
    Check.test("promise 49: a product that is too great", FigureEdgeTests::mixesTooGreat);
    Check.test("promise 49: products that would wrap around", FigureEdgeTests::mixesAround);
    Check.test("promise 49: tracks that are left out", FigureEdgeTests::mixesLeftOut);
    Check.test("promise 49: all 24 tracks", FigureEdgeTests::mixesOfAll);
    Check.test("promise 51: there are no tracks", FigureEdgeTests::shareOfNoTracks);
    Check.test("promise 51: no list, and lists without tracks", FigureEdgeTests::shareOfNone);
    Check.test("promise 51: all tracks", FigureEdgeTests::shareOfAll);
    Check.test("promise 51: in at least one list", FigureEdgeTests::shareCountsOnce);
    Check.test("promise 51: in the last list alone", FigureEdgeTests::shareOfTheLast);
    Check.test("promise 51: removed tracks", FigureEdgeTests::shareWithoutRemoved);
    Check.test("promise 51: divided as floats", FigureEdgeTests::shareAsFloat);
    Check.test("promise 52: no such list", FigureEdgeTests::meanOfNone);
    Check.test("promise 52: it has no tracks", FigureEdgeTests::meanOfNoTracks);
    Check.test("promise 52: one track and all tracks", FigureEdgeTests::meanOfOneAndAll);
    Check.test("promise 52: divided as doubles", FigureEdgeTests::meanAsDouble);
    Check.test("promise 52: tracks that are left out", FigureEdgeTests::meanLeftOut);
  }

  /** Tracks of 100 s and 200 s that are rated 3, two tags with empty names, and a list. */
  private static Scene one(int rule) {
    return new Scene(
        x -> {
          x.addTrack(100, 3);
          x.addTrack(200, 3);
          x.addTag();
          x.addTag();
          x.not(x.rated(0));
          x.hasTag(0);
          x.hasTag(1);
          x.rated(4);
          x.playedAtMost(0);
          x.playedWithin(0);
          x.addList(rule, 's', 0);
        });
  }

  private static void dueTouched(int due, Scene ahead, Scene.Steps step) {
    ahead.then(step).due(due, x -> x.touched());
  }

  // Promise 48

  private static void touchedByNone() {
    new Scene().due(0, x -> x.touched());
    new Scene(x -> x.addList(x.rated(0), 's', 0)).due(0, x -> x.touched());
    new Scene(x -> x.letter(x.addTag(), 'a')).due(0, x -> x.touched());
    new Scene(x -> x.hasTag(x.addTag())).due(0, x -> x.touched());
  }

  private static void touchedAll() {
    EIGHT.due(0, x -> x.touched());
    dueTouched(8, EIGHT, x -> x.addTrack(499, 3));
    dueTouched(5, EIGHT, x -> x.addTrack(500, 3));
    Scene all = EIGHT.then(x -> x.addTrack(499, 3));
    dueTouched(0, all, x -> x.setRating(0, 3));
    dueTouched(8, all, x -> x.removeTrack(0));
    dueTouched(8, all, x -> x.removeTrack(1));
  }

  private static void touchedByAddTrack() {
    dueTouched(1, one(EVERY), x -> x.addTrack(1, 0));
    dueTouched(0, one(NO_TRACK), x -> x.addTrack(1, 0));
    dueTouched(0, one(EVERY).then(x -> x.setLimit(0, 100)), x -> x.addTrack(100, 0));
    dueTouched(1, one(EVERY).then(x -> x.setLimit(0, 100)), x -> x.addTrack(99, 0));
    dueTouched(0, new Scene(), x -> x.addTrack(1, 0));
  }

  private static void touchedByRemoveTrack() {
    dueTouched(1, one(EVERY), x -> x.removeTrack(0));
    dueTouched(0, one(NO_TRACK), x -> x.removeTrack(0));
    Scene first = one(EVERY).then(x -> x.setLimit(0, 200));
    dueTouched(0, first, x -> x.removeTrack(1));
    dueTouched(1, first, x -> x.removeTrack(0));
    // There is room for the track 1 now.
    first.then(x -> x.removeTrack(0)).due(1, x -> x.trackAt(0, 0));
  }

  private static void touchedBySetRating() {
    dueTouched(1, one(GOOD), x -> x.setRating(0, 4));
    dueTouched(0, one(GOOD), x -> x.setRating(0, 2));
    dueTouched(0, one(GOOD).then(x -> x.setRating(0, 4)), x -> x.setRating(0, 5));
    dueTouched(1, one(GOOD).then(x -> x.setRating(0, 4)), x -> x.setRating(0, 3));
  }

  private static void touchedByPlay() {
    dueTouched(1, one(UNPLAYED), x -> x.play(0));
    dueTouched(0, one(UNPLAYED).then(x -> x.play(0)), x -> x.play(0));
    dueTouched(1, one(TODAY), x -> x.play(1));
    dueTouched(0, one(TODAY).then(x -> x.play(1)), x -> x.play(1));
    Scene fewest = one(EVERY).then(x -> x.setOrder(0, 'p')).then(x -> x.setLimit(0, 200));
    dueTouched(1, fewest, x -> x.play(0));
    dueTouched(0, fewest, x -> x.play(1));
  }

  private static void touchedByPass() {
    Scene played = one(TODAY).then(x -> x.play(0));
    dueTouched(1, played, x -> x.pass(1));
    dueTouched(1, played, x -> x.pass(365));
    dueTouched(0, played.then(x -> x.pass(1)), x -> x.pass(1));
    dueTouched(0, one(EVERY).then(x -> x.removeTrack(0)), x -> x.pass(1));
  }

  private static void touchedByTag() {
    dueTouched(1, one(HAS_ZERO), x -> x.tag(0, 0));
    dueTouched(0, one(HAS_ZERO).then(x -> x.tag(0, 0)), x -> x.tag(0, 1));
  }

  private static void touchedByUntag() {
    Scene tagged = one(HAS_ZERO).then(x -> x.tag(0, 1)).then(x -> x.tag(0, 0));
    dueTouched(1, tagged, x -> x.untag(0, 0));
    dueTouched(0, tagged, x -> x.untag(0, 1));
  }

  private static void touchedByTidy() {
    dueTouched(1, one(HAS_ZERO).then(x -> x.tag(0, 1)), x -> x.tidy(0, 1));
    dueTouched(0, one(HAS_ZERO).then(x -> x.tag(0, 0)), x -> x.tidy(0, 1));
    dueTouched(0, one(HAS_ZERO).then(x -> x.tag(0, 0)), x -> x.tidy(1, 0));
    dueTouched(1, one(HAS_ONE).then(x -> x.tag(0, 0)), x -> x.tidy(0, 1));
    dueTouched(0, one(HAS_ONE), x -> x.tidy(0, 1));
  }

  private static void touchedByUndoTidy() {
    Scene gained = one(HAS_ZERO).then(x -> x.tag(0, 1)).then(x -> x.tidy(0, 1));
    dueTouched(1, gained, x -> x.undoTidy());
    dueTouched(1, gained.then(x -> x.play(0)), x -> x.undoTidy());
    Scene kept = one(HAS_ZERO).then(x -> x.tag(0, 0)).then(x -> x.tidy(0, 1));
    dueTouched(0, kept, x -> x.undoTidy());
    dueTouched(0, gained.then(x -> x.removeTrack(0)), x -> x.undoTidy());
  }

  private static void touchedBySetRule() {
    dueTouched(1, one(EVERY), x -> x.setRule(0, NO_TRACK));
    dueTouched(0, one(EVERY).then(x -> x.removeTrack(0)), x -> x.setRule(0, EVERY));
    dueTouched(0, one(EVERY).then(x -> x.removeTrack(0)), x -> x.setRule(0, UNPLAYED));
  }

  private static void touchedBySetOrder() {
    Scene first = one(EVERY).then(x -> x.setLimit(0, 200));
    first.due(1, x -> x.touched());
    dueTouched(1, first, x -> x.setOrder(0, 'n'));
    dueTouched(0, first, x -> x.setOrder(0, 's'));
    dueTouched(0, first, x -> x.setOrder(0, 'r'));
  }

  private static void touchedBySetLimit() {
    dueTouched(0, one(EVERY).then(x -> x.addTrack(1, 0)), x -> x.setLimit(0, 301));
    dueTouched(1, one(EVERY), x -> x.setLimit(0, 299));
    dueTouched(1, one(EVERY).then(x -> x.setLimit(0, 299)), x -> x.setLimit(0, 0));
    dueTouched(0, one(EVERY).then(x -> x.setLimit(0, 299)), x -> x.setLimit(0, 299));
  }

  private static void touchedByOthers() {
    Scene touched = one(EVERY).then(x -> x.addTrack(1, 0));
    Scene.Steps[] steps = {
      x -> x.addTag(), x -> x.letter(0, 'a'), x -> x.hasTag(0), x -> x.rated(0),
      x -> x.playedAtMost(0), x -> x.asLongAs(1), x -> x.playedWithin(0), x -> x.inList(0),
      x -> x.both(0, 0), x -> x.either(0, 0), x -> x.not(0), x -> x.addList(0, 's', 0),
      x -> x.addList(1, 'n', 1), x -> x.tracks(), x -> x.today(), x -> x.lengthOf(0),
      x -> x.ratingOf(0), x -> x.playsOf(0), x -> x.tagBits(0), x -> x.nameLength(0),
      x -> x.distance(0, 1), x -> x.distanceByTrying(0, 1), x -> x.nearest(0), x -> x.sizeOf(0),
      x -> x.holds(0, 0), x -> x.matches(0), x -> x.size(0), x -> x.trackAt(0, 0),
      x -> x.contains(0, 0), x -> x.containsByRounds(0, 0), x -> x.secondsOf(0),
      x -> x.common(0, 0), x -> x.dependsOn(0, 0), x -> x.touched(), x -> x.mixes(0),
      x -> x.seconds(), x -> x.listedShare(), x -> x.meanLength(0),
    };
    for (Scene.Steps step : steps) {
      dueTouched(1, touched, step);
    }
  }

  private static void touchedByRefused() {
    Scene touched = one(EVERY).then(x -> x.tag(1, 1)).then(x -> x.addTrack(1, 0));
    Scene asking = touched.then(x -> x.inList(0)).then(x -> x.letter(0, 'a'));
    Scene far = asking.then(x -> x.letter(0, 'b'));
    far.due(1, x -> x.touched());
    far.refused(Scene.RANGE, x -> x.addTrack(0, 0));
    far.refused(Scene.NONE, x -> x.removeTrack(3));
    far.refused(Scene.RANGE, x -> x.setRating(0, 6));
    far.refused(Scene.NONE, x -> x.play(3));
    far.refused(Scene.RANGE, x -> x.pass(0));
    far.refused(Scene.STATE, x -> x.tag(1, 1));
    far.refused(Scene.STATE, x -> x.untag(0, 1));
    far.refused(Scene.UNFIT, x -> x.tidy(0, 1));
    far.refused(Scene.STATE, x -> x.undoTidy());
    far.refused(Scene.UNFIT, x -> x.setRule(0, 7));
    far.refused(Scene.RANGE, x -> x.setOrder(0, 'x'));
    far.refused(Scene.RANGE, x -> x.setLimit(0, 10000));
  }

  private static void touchedByOrder() {
    Scene all = one(EVERY).then(x -> x.addTrack(1, 0));
    all.due(2, x -> x.trackAt(0, 0));
    dueTouched(0, all, x -> x.setOrder(0, 'p'));
    all.then(x -> x.setOrder(0, 'p')).due(0, x -> x.trackAt(0, 0));
    dueTouched(0, all.then(x -> x.setOrder(0, 'p')), x -> x.play(0));
    dueTouched(0, all.then(x -> x.setOrder(0, 'r')), x -> x.setRating(0, 0));
  }

  private static void touchedSameSize() {
    Scene best = one(EVERY).then(x -> x.setOrder(0, 'r')).then(x -> x.setLimit(0, 200));
    best.due(0, x -> x.trackAt(0, 0));
    dueTouched(1, best, x -> x.setRating(1, 5));
    best.then(x -> x.setRating(1, 5)).due(1, x -> x.trackAt(0, 0));
    best.then(x -> x.setRating(1, 5)).due(1, x -> x.size(0));
    // The track 1 comes for the track 0, which is no more.
    dueTouched(1, best, x -> x.removeTrack(0));
  }

  private static void touchedAlong() {
    Scene asking = one(GOOD).then(x -> x.addList(x.not(x.inList(0)), 's', 0));
    dueTouched(2, asking, x -> x.setRating(0, 4));
    dueTouched(2, asking, x -> x.setRule(0, EVERY));
    dueTouched(1, asking, x -> x.addTrack(1, 0));
    dueTouched(0, asking, x -> x.setRating(0, 3));
  }

  // Promise 49

  private static void mixesOfNone() {
    Scene.noList((x, list) -> x.mixes(list));
  }

  private static void mixesOfNoTracks() {
    one(NO_TRACK).due(1, x -> x.mixes(0));
    one(NO_TRACK).then(x -> x.play(0)).due(1, x -> x.mixes(0));
    one(EVERY).then(x -> x.play(0)).then(x -> x.setLimit(0, 1)).due(1, x -> x.mixes(0));
  }

  private static void mixesWithoutPlays() {
    one(EVERY).due(1, x -> x.mixes(0));
    one(EVERY).then(x -> x.play(0)).due(2, x -> x.mixes(0));
    one(EVERY).then(x -> x.play(0)).then(x -> x.play(1)).due(4, x -> x.mixes(0));
  }

  /** A list of tracks that were played so often that these are the factors. */
  private static Scene played(int... factors) {
    return new Scene(
        x -> {
          x.addList(x.rated(0), 's', 0);
          for (int factor : factors) {
            int track = x.addTrack(1, 0);
            for (int plays = 1; plays < factor; plays++) {
              x.play(track);
            }
          }
        });
  }

  /** 2147483647 is prime; the first is the greatest below it that 512 calls can make. */
  private static void mixesGreatest() {
    played(8, 3, 5, 29, 43, 113, 127).due(2147483640, x -> x.mixes(0));
    played(127, 113, 43, 29, 5, 3, 8).due(2147483640, x -> x.mixes(0));
    played(2, 3, 3, 7, 11, 31, 151, 331).due(2147483646, x -> x.mixes(0));
  }

  private static void mixesTooGreat() {
    played(64, 64, 64, 64, 64, 2).refused(Scene.SUM, x -> x.mixes(0));
    played(2, 64, 64, 64, 64, 64).refused(Scene.SUM, x -> x.mixes(0));
    played(64, 64, 64, 64, 64).due(1073741824, x -> x.mixes(0));
  }

  /** 2 to the 32nd, to the 33rd and to the 64th, and 17 to the 17th. */
  private static void mixesAround() {
    played(16, 16, 16, 16, 16, 16, 16, 16).refused(Scene.SUM, x -> x.mixes(0));
    played(16, 16, 16, 16, 16, 16, 16, 16, 2).refused(Scene.SUM, x -> x.mixes(0));
    int[] sixteens = new int[16];
    Arrays.fill(sixteens, 16);
    played(sixteens).refused(Scene.SUM, x -> x.mixes(0));
    int[] seventeens = new int[17];
    Arrays.fill(seventeens, 17);
    played(seventeens).refused(Scene.SUM, x -> x.mixes(0));
  }

  private static void mixesLeftOut() {
    Scene great = played(64, 64, 64, 64, 64, 2);
    great.then(x -> x.setLimit(0, 5)).due(1073741824, x -> x.mixes(0));
    great.then(x -> x.removeTrack(0)).due(33554432, x -> x.mixes(0));
    great.then(x -> x.setRule(0, x.not(0))).due(1, x -> x.mixes(0));
  }

  private static void mixesOfAll() {
    int[] twos = new int[24];
    Arrays.fill(twos, 2);
    Scene all = played(twos);
    all.due(16777216, x -> x.mixes(0));
    all.then(x -> x.play(23)).due(25165824, x -> x.mixes(0));
    all.then(x -> x.play(0)).due(25165824, x -> x.mixes(0));
  }

  // Promise 51

  private static void shareOfNoTracks() {
    new Scene().refused(Scene.SUM, x -> x.listedShare());
    new Scene(x -> x.addList(x.rated(0), 's', 0)).refused(Scene.SUM, x -> x.listedShare());
    Scene removed = one(EVERY).then(x -> x.removeTrack(0)).then(x -> x.removeTrack(1));
    removed.refused(Scene.SUM, x -> x.listedShare());
    one(EVERY).then(x -> x.removeTrack(0)).due(1.0f, x -> x.listedShare());
  }

  private static void shareOfNone() {
    new Scene(x -> x.addTrack(1, 0)).due(0.0f, x -> x.listedShare());
    one(NO_TRACK).due(0.0f, x -> x.listedShare());
  }

  private static void shareOfAll() {
    one(EVERY).due(1.0f, x -> x.listedShare());
    EIGHT.due(1.0f, x -> x.listedShare());
    Scene.FULL.due(1.0f, x -> x.listedShare());
  }

  private static void shareCountsOnce() {
    Scene two = one(EVERY).then(x -> x.addList(EVERY, 's', 100)).then(x -> x.setLimit(0, 100));
    two.due(0.5f, x -> x.listedShare());
    two.then(x -> x.setOrder(1, 'n')).then(x -> x.setLimit(1, 200)).due(1.0f, x -> x.listedShare());
  }

  private static void shareOfTheLast() {
    for (int last : new int[] {0, 7}) {
      Scene alone =
          EIGHT.then(
              x -> {
                int none = x.not(0);
                for (int list = 0; list < 8; list++) {
                  x.setRule(list, list == last ? 0 : none);
                }
              });
      alone.due(1.0f, x -> x.listedShare());
      alone.then(x -> x.setLimit(last, 499)).due(0.0f, x -> x.listedShare());
    }
  }

  private static void shareWithoutRemoved() {
    Scene first = one(EVERY).then(x -> x.addTrack(300, 0)).then(x -> x.setLimit(0, 100));
    first.then(x -> x.removeTrack(2)).due(0.5f, x -> x.listedShare());
    first.then(x -> x.removeTrack(0)).due(0.0f, x -> x.listedShare());
  }

  private static void shareAsFloat() {
    Scene first = one(EVERY).then(x -> x.addTrack(300, 0)).then(x -> x.setLimit(0, 100));
    first.due(0.33333334f, x -> x.listedShare());
    first.then(x -> x.setLimit(0, 300)).due(0.6666667f, x -> x.listedShare());
  }

  // Promise 52

  private static void meanOfNone() {
    Scene.noList((x, list) -> x.meanLength(list));
  }

  private static void meanOfNoTracks() {
    one(NO_TRACK).refused(Scene.SUM, x -> x.meanLength(0));
    one(EVERY).then(x -> x.setLimit(0, 99)).refused(Scene.SUM, x -> x.meanLength(0));
    one(EVERY).then(x -> x.setLimit(0, 100)).due(100.0, x -> x.meanLength(0));
    new Scene(x -> x.addList(x.rated(0), 's', 0)).refused(Scene.SUM, x -> x.meanLength(0));
  }

  private static void meanOfOneAndAll() {
    Scene one = new Scene(x -> x.addTrack(1, 0), x -> x.addList(x.rated(0), 's', 0));
    one.due(1.0, x -> x.meanLength(0));
    Scene all =
        one.then(
            x -> {
              for (int track = 1; track < 24; track++) {
                x.addTrack(999, 0);
              }
            });
    all.due(22978.0 / 24.0, x -> x.meanLength(0));
  }

  private static void meanAsDouble() {
    one(EVERY).then(x -> x.addTrack(1, 0)).due(100.33333333333333, x -> x.meanLength(0));
    one(EVERY).then(x -> x.addTrack(2, 0)).due(100.66666666666667, x -> x.meanLength(0));
    one(EVERY).then(x -> x.setRating(0, 0)).due(150.0, x -> x.meanLength(0));
  }

  private static void meanLeftOut() {
    Scene left = one(EVERY).then(x -> x.addTrack(201, 0));
    left.then(x -> x.setLimit(0, 300)).due(150.0, x -> x.meanLength(0));
    left.then(x -> x.removeTrack(0)).due(200.5, x -> x.meanLength(0));
  }
}
