/** Edges in promises 1 to 6, 26 to 31 and 50: each sentence that names one has its own test. */
final class TrackEdgeTests {
  /** 24 tracks have been added, whose lengths and ratings are those of the edges. */
  private static final Scene ROOMFUL =
      new Scene(
          x -> {
            for (int track = 0; track < 24; track++) {
              x.addTrack(track % 2 == 0 ? 1 : 999, track % 2 == 0 ? 0 : 5);
            }
          });

  /** The day 9998, one before the last one. */
  private static final Scene LATE =
      new Scene(
          x -> {
            for (int years = 0; years < 27; years++) {
              x.pass(365);
            }
            x.pass(143);
          });

  private TrackEdgeTests() {}

  static void run() {
    Check.test("promise 1: a new object has no tracks", TrackEdgeTests::newWithoutTracks);
    Check.test("promise 1: a new object has no tags", TrackEdgeTests::newWithoutTags);
    Check.test("promise 1: a new object has no rules", TrackEdgeTests::newWithoutRules);
    Check.test("promise 1: a new object has no lists", TrackEdgeTests::newWithoutLists);
    Check.test("promise 1: a new object is on the day 0", TrackEdgeTests::newOnTheFirstDay);
    Check.test("promise 1: two objects share nothing", TrackEdgeTests::newAndApart);
    Check.test("promise 2: tracks have numbers from 0", TrackEdgeTests::trackNumbers);
    Check.test("promise 2: a length from 1 to 999", TrackEdgeTests::lengths);
    Check.test("promise 2: a rating from 0 to 5", TrackEdgeTests::ratings);
    Check.test("promise 2: at most 24 tracks are added", TrackEdgeTests::mostTracks);
    Check.test("promise 2: removed tracks count as added", TrackEdgeTests::mostTracksRemoved);
    Check.test("promise 2: a range comes ahead of 24 tracks", TrackEdgeTests::rangeFirst);
    Check.test("promise 2: a track is added without tags", TrackEdgeTests::addedWithoutTags);
    Check.test("promise 2: a track is added without plays", TrackEdgeTests::addedWithoutPlays);
    Check.test("promise 3: the tracks that are left", TrackEdgeTests::tracksLeft);
    Check.test("promise 3: no such track", TrackEdgeTests::removeNone);
    Check.test("promise 3: a track is removed once", TrackEdgeTests::removeTwice);
    Check.test("promise 3: a number is not given again", TrackEdgeTests::numberNotGivenAgain);
    Check.test("promise 3: a removed track leaves the lists", TrackEdgeTests::removedFromLists);
    Check.test("promise 4: a rating from 0 to 5", TrackEdgeTests::setRatings);
    Check.test("promise 4: no such track", TrackEdgeTests::setRatingOfNone);
    Check.test("promise 4: no such track ahead of a range", TrackEdgeTests::setRatingNoneFirst);
    Check.test("promise 4: the rating before", TrackEdgeTests::ratingBefore);
    Check.test("promise 5: no such track", TrackEdgeTests::playNone);
    Check.test("promise 5: at most 999 plays", TrackEdgeTests::mostPlays);
    Check.test("promise 5: no such track ahead of 999 plays", TrackEdgeTests::playNoneFirst);
    Check.test("promise 5: plays count from 0", TrackEdgeTests::playsCount);
    Check.test("promise 6: 1 to 365 days", TrackEdgeTests::days);
    Check.test("promise 6: today is at most 9999", TrackEdgeTests::lastDay);
    Check.test("promise 6: a range comes ahead of the last day", TrackEdgeTests::daysRangeFirst);
    Check.test("promise 26: none, all, and removed tracks", TrackEdgeTests::tracks);
    Check.test("promise 27: the first and the last day", TrackEdgeTests::today);
    Check.test("promise 28: no such track", TrackEdgeTests::lengthOfNone);
    Check.test("promise 28: the least and the greatest length", TrackEdgeTests::lengthOf);
    Check.test("promise 29: no such track", TrackEdgeTests::ratingOfNone);
    Check.test("promise 29: the least and the greatest rating", TrackEdgeTests::ratingOf);
    Check.test("promise 30: no such track", TrackEdgeTests::playsOfNone);
    Check.test("promise 30: never played", TrackEdgeTests::playsOf);
    Check.test("promise 31: no such track", TrackEdgeTests::playedLastNone);
    Check.test("promise 31: never played", TrackEdgeTests::neverPlayed);
    Check.test("promise 31: never played and removed", TrackEdgeTests::neverPlayedAndRemoved);
    Check.test("promise 31: played on the first and on the last day", TrackEdgeTests::playedLast);
    Check.test("promise 50: nothing played", TrackEdgeTests::noSeconds);
    Check.test("promise 50: removed tracks are included", TrackEdgeTests::secondsOfRemoved);
    Check.test("promise 50: each time that it was played", TrackEdgeTests::secondsEachTime);
  }

  // Promise 1

  private static void newWithoutTracks() {
    Scene empty = new Scene();
    empty.due(0, x -> x.tracks());
    empty.due(0, x -> x.addTrack(1, 0));
    for (int track = 0; track < 24; track++) {
      int asked = track;
      empty.refused(Scene.NONE, x -> x.lengthOf(asked));
    }
  }

  private static void newWithoutTags() {
    Scene empty = new Scene();
    empty.due(0, x -> x.addTag());
    for (int tag = 0; tag < 16; tag++) {
      int asked = tag;
      empty.refused(Scene.NONE, x -> x.nameLength(asked));
    }
  }

  private static void newWithoutRules() {
    Scene empty = new Scene();
    empty.due(0, x -> x.rated(0));
    for (int rule = 0; rule < 40; rule++) {
      int asked = rule;
      empty.refused(Scene.NONE, x -> x.sizeOf(asked));
    }
  }

  private static void newWithoutLists() {
    Scene empty = new Scene();
    empty.due(0, x -> x.addList(x.rated(0), 's', 0));
    for (int list = 0; list < 8; list++) {
      int asked = list;
      empty.refused(Scene.NONE, x -> x.size(asked));
    }
  }

  private static void newOnTheFirstDay() {
    new Scene().due(0, x -> x.today());
    new Scene().due(1, x -> x.pass(1));
  }

  private static void newAndApart() {
    Smartcrate kept = Scene.FULL.make();
    Smartcrate fresh = new Smartcrate();
    Check.due(0, fresh.tracks());
    Check.due(0, fresh.addTag());
    Check.due(0, fresh.rated(5));
    Check.due(0, fresh.addTrack(7, 5));
    Check.due(0, fresh.addList(0, 's', 0));
    Check.due(1, fresh.size(0));
    Check.due(24, kept.tracks());
    Check.due(100, kept.lengthOf(0));
  }

  // Promise 2

  private static void trackNumbers() {
    Smartcrate x = new Smartcrate();
    for (int track = 0; track < 24; track++) {
      Check.due(track, x.addTrack(500, 3));
    }
  }

  private static void lengths() {
    Scene.SMALL.range(1, 999, (x, length) -> x.addTrack(length, 3));
  }

  private static void ratings() {
    Scene.SMALL.range(0, 5, (x, rating) -> x.addTrack(200, rating));
  }

  private static void mostTracks() {
    ROOMFUL.refused(Scene.STATE, x -> x.addTrack(1, 0));
    ROOMFUL.refused(Scene.STATE, x -> x.addTrack(999, 5));
    ROOMFUL.due(24, x -> x.tracks());
    Scene.FULL.refused(Scene.STATE, x -> x.addTrack(200, 3));
  }

  private static void mostTracksRemoved() {
    Scene last = ROOMFUL.then(x -> x.removeTrack(23));
    last.refused(Scene.STATE, x -> x.addTrack(200, 3));
    Scene all =
        ROOMFUL.then(
            x -> {
              for (int track = 0; track < 24; track++) {
                x.removeTrack(track);
              }
            });
    all.due(0, x -> x.tracks());
    all.refused(Scene.STATE, x -> x.addTrack(200, 3));
  }

  private static void rangeFirst() {
    ROOMFUL.refused(Scene.RANGE, x -> x.addTrack(0, 3));
    ROOMFUL.refused(Scene.RANGE, x -> x.addTrack(1000, 3));
    ROOMFUL.refused(Scene.RANGE, x -> x.addTrack(200, -1));
    ROOMFUL.refused(Scene.RANGE, x -> x.addTrack(200, 6));
    ROOMFUL.refused(Scene.RANGE, x -> x.addTrack(0, 6));
  }

  private static void addedWithoutTags() {
    Scene.SMALL.due(0, x -> x.tagBits(x.addTrack(1, 0)));
    Scene.SMALL.due(false, x -> x.holds(1, x.addTrack(999, 5)));
  }

  private static void addedWithoutPlays() {
    Scene.SMALL.due(0, x -> x.playsOf(x.addTrack(1, 0)));
    Scene one = Scene.SMALL.then(x -> x.addTrack(1, 0));
    one.refused(Scene.STATE, x -> x.playedLast(5));
  }

  // Promise 3

  private static void tracksLeft() {
    Smartcrate x = ROOMFUL.make();
    for (int track = 23; track >= 0; track--) {
      Check.due(track, x.removeTrack(track));
    }
  }

  private static void removeNone() {
    Scene.noTrack((x, track) -> x.removeTrack(track));
  }

  private static void removeTwice() {
    for (int track : new int[] {0, 23}) {
      Scene gone = Scene.FULL.then(x -> x.removeTrack(track));
      gone.refused(Scene.NONE, x -> x.removeTrack(track));
      gone.due(22, x -> x.removeTrack(track == 0 ? 23 : 0));
    }
  }

  private static void numberNotGivenAgain() {
    Scene.SMALL.due(5, x -> x.addTrack(1, 0));
    Scene gone = new Scene(x -> x.removeTrack(x.addTrack(200, 3)), x -> x.addTrack(300, 4));
    gone.refused(Scene.NONE, x -> x.lengthOf(0));
    gone.due(300, x -> x.lengthOf(1));
    gone.due(1, x -> x.tracks());
  }

  private static void removedFromLists() {
    Scene listed = ROOMFUL.then(x -> x.addList(x.rated(0), 's', 0));
    listed.due(24, x -> x.size(0));
    for (int track : new int[] {0, 23}) {
      Scene gone = listed.then(x -> x.removeTrack(track));
      gone.due(23, x -> x.size(0));
      gone.due(23, x -> x.matches(0));
      gone.due(1, x -> x.touched());
      gone.refused(Scene.NONE, x -> x.contains(0, track));
    }
  }

  // Promises 4 and 5

  private static void setRatings() {
    Scene.SMALL.range(0, 5, (x, rating) -> x.setRating(0, rating));
    Scene.FULL.range(0, 5, (x, rating) -> x.setRating(23, rating));
  }

  private static void setRatingOfNone() {
    Scene.noTrack((x, track) -> x.setRating(track, 0));
    Scene.noTrack((x, track) -> x.setRating(track, 5));
  }

  private static void setRatingNoneFirst() {
    Scene.SMALL.refused(Scene.NONE, x -> x.setRating(1, 6));
    Scene.SMALL.refused(Scene.NONE, x -> x.setRating(5, -1));
    Scene.FULL.refused(Scene.NONE, x -> x.setRating(24, 6));
    Scene.FULL.refused(Scene.NONE, x -> x.setRating(-1, -1));
  }

  private static void ratingBefore() {
    Smartcrate x = ROOMFUL.make();
    Check.due(0, x.setRating(0, 5));
    Check.due(5, x.setRating(0, 5));
    Check.due(5, x.setRating(0, 0));
    Check.due(0, x.setRating(0, 0));
    Check.due(5, x.setRating(23, 1));
  }

  private static void playNone() {
    Scene.noTrack((x, track) -> x.play(track));
  }

  /** No run of 512 calls comes that far, but the sentence stands. */
  private static void mostPlays() {
    Smartcrate x = ROOMFUL.make();
    for (int plays = 1; plays <= 998; plays++) {
      x.play(1);
    }
    Check.due(999, x.play(1));
    x.pass(1);
    Check.refused(x, Scene.STATE, () -> x.play(1));
    Check.due(999, x.playsOf(1));
    Check.due(998001L, x.seconds());
    Check.due(1, x.play(0));
  }

  private static void playNoneFirst() {
    Smartcrate x = ROOMFUL.make();
    for (int plays = 1; plays <= 999; plays++) {
      x.play(1);
    }
    x.removeTrack(1);
    Check.refused(x, Scene.NONE, () -> x.play(1));
  }

  private static void playsCount() {
    Smartcrate x = ROOMFUL.make();
    Check.due(1, x.play(23));
    Check.due(2, x.play(23));
    Check.due(1, x.play(0));
  }

  // Promise 6

  private static void days() {
    Scene.SMALL.range(1, 365, (x, days) -> x.pass(days));
    Scene.SMALL.due(6, x -> x.pass(1));
    Scene.SMALL.due(370, x -> x.pass(365));
  }

  private static void lastDay() {
    LATE.due(9999, x -> x.pass(1));
    LATE.refused(Scene.STATE, x -> x.pass(2));
    LATE.refused(Scene.STATE, x -> x.pass(365));
    Scene last = LATE.then(x -> x.pass(1));
    last.refused(Scene.STATE, x -> x.pass(1));
    last.refused(Scene.STATE, x -> x.pass(365));
  }

  private static void daysRangeFirst() {
    Scene last = LATE.then(x -> x.pass(1));
    for (int days : new int[] {366, 0, -1, Scene.HIGH, Scene.LOW, Scene.HIGH - 9998}) {
      last.refused(Scene.RANGE, x -> x.pass(days));
    }
  }

  // Promises 26 to 31

  private static void tracks() {
    new Scene().due(0, x -> x.tracks());
    ROOMFUL.due(24, x -> x.tracks());
    Scene.SMALL.due(3, x -> x.tracks());
    new Scene(x -> x.removeTrack(x.addTrack(1, 0))).due(0, x -> x.tracks());
  }

  private static void today() {
    new Scene().due(0, x -> x.today());
    LATE.due(9998, x -> x.today());
    LATE.then(x -> x.pass(1)).due(9999, x -> x.today());
  }

  private static void lengthOfNone() {
    Scene.noTrack((x, track) -> x.lengthOf(track));
  }

  private static void lengthOf() {
    ROOMFUL.due(1, x -> x.lengthOf(0));
    ROOMFUL.due(999, x -> x.lengthOf(23));
  }

  private static void ratingOfNone() {
    Scene.noTrack((x, track) -> x.ratingOf(track));
  }

  private static void ratingOf() {
    ROOMFUL.due(0, x -> x.ratingOf(0));
    ROOMFUL.due(5, x -> x.ratingOf(23));
  }

  private static void playsOfNone() {
    Scene.noTrack((x, track) -> x.playsOf(track));
  }

  private static void playsOf() {
    ROOMFUL.due(0, x -> x.playsOf(0));
    Scene.FULL.due(1, x -> x.playsOf(23));
  }

  private static void playedLastNone() {
    Scene.noTrack((x, track) -> x.playedLast(track));
  }

  private static void neverPlayed() {
    ROOMFUL.refused(Scene.STATE, x -> x.playedLast(0));
    ROOMFUL.refused(Scene.STATE, x -> x.playedLast(23));
    Scene.SMALL.refused(Scene.STATE, x -> x.playedLast(3));
  }

  private static void neverPlayedAndRemoved() {
    Scene.SMALL.refused(Scene.NONE, x -> x.playedLast(1));
    Scene.SMALL.refused(Scene.NONE, x -> x.playedLast(4));
    Scene.SMALL.then(x -> x.removeTrack(0)).refused(Scene.NONE, x -> x.playedLast(0));
  }

  private static void playedLast() {
    Scene.SMALL.due(0, x -> x.playedLast(0));
    Scene.SMALL.due(5, x -> x.playedLast(2));
    Scene last = LATE.then(x -> x.addTrack(1, 0)).then(x -> x.pass(1)).then(x -> x.play(0));
    last.due(9999, x -> x.playedLast(0));
    Scene early = new Scene(x -> x.addTrack(1, 0), x -> x.play(0), x -> x.pass(1));
    early.due(0, x -> x.playedLast(0));
  }

  // Promise 50

  private static void noSeconds() {
    new Scene().due(0L, x -> x.seconds());
    ROOMFUL.due(0L, x -> x.seconds());
  }

  private static void secondsOfRemoved() {
    Scene played = ROOMFUL.then(x -> x.play(1)).then(x -> x.removeTrack(1));
    played.due(999L, x -> x.seconds());
    played.then(x -> x.play(0)).due(1000L, x -> x.seconds());
    Scene.SMALL.then(x -> x.removeTrack(0)).due(300L, x -> x.seconds());
  }

  private static void secondsEachTime() {
    Scene often =
        ROOMFUL.then(
            x -> {
              for (int times = 0; times < 100; times++) {
                x.play(23);
              }
            });
    often.due(99900L, x -> x.seconds());
    often.then(x -> x.play(0)).due(99901L, x -> x.seconds());
  }
}
