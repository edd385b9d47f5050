import java.util.NoSuchElementException;

/** Promises 1 to 6, 26 to 31 and 50: the new object, tracks and days. */
final class TrackTests {
  private static final Class<NoSuchElementException> NONE = NoSuchElementException.class;
  private static final Class<IllegalArgumentException> RANGE = IllegalArgumentException.class;
  private static final Class<IllegalStateException> STATE = IllegalStateException.class;
  private static final int[] WRONG = {-1, 2, 23, 24, 25, Integer.MIN_VALUE, Integer.MAX_VALUE};

  private TrackTests() {}

  static void run() {
    Check.test("promise 1: a new object", TrackTests::newObject);
    Check.test("promise 2: addTrack", TrackTests::addTrack);
    Check.test("promise 2: addTrack refused", TrackTests::addTrackRefused);
    Check.test("promise 3: removeTrack", TrackTests::removeTrack);
    Check.test("promise 4: setRating", TrackTests::setRating);
    Check.test("promise 5: play", TrackTests::play);
    Check.test("promise 5: play, 999 times", TrackTests::playOften);
    Check.test("promise 6: pass", TrackTests::pass);
    Check.test("promise 6: pass to the last day", TrackTests::passToTheLastDay);
    Check.test("promise 26: tracks", TrackTests::tracks);
    Check.test("promise 27: today", TrackTests::today);
    Check.test("promise 28: lengthOf", TrackTests::lengthOf);
    Check.test("promise 29: ratingOf", TrackTests::ratingOf);
    Check.test("promise 30: playsOf", TrackTests::playsOf);
    Check.test("promise 31: playedLast", TrackTests::playedLast);
    Check.test("promise 50: seconds", TrackTests::seconds);
  }

  /** A library with the tracks 0 and 1. */
  private static Smartcrate two() {
    Smartcrate x = new Smartcrate();
    x.addTrack(200, 3);
    x.addTrack(300, 5);
    return x;
  }

  private static void newObject() {
    Smartcrate x = new Smartcrate();
    Check.due(0, x.tracks());
    Check.due(0, x.today());
    Check.due(0L, x.seconds());
    Check.due(0, x.touched());
    Check.refused(x, NONE, () -> x.lengthOf(0));
    Check.refused(x, NONE, () -> x.nameLength(0));
    Check.refused(x, NONE, () -> x.sizeOf(0));
    Check.refused(x, NONE, () -> x.size(0));
    Check.refused(x, STATE, () -> x.undoTidy());
    Check.refused(x, ArithmeticException.class, () -> x.listedShare());
    x.addTrack(1, 0);
    Check.due(0, new Smartcrate().tracks());
  }

  private static void addTrack() {
    Smartcrate x = new Smartcrate();
    Check.due(0, x.addTrack(1, 0));
    Check.due(1, x.addTrack(999, 5));
    Check.due(2, x.addTrack(200, 3));
    Check.due(999, x.lengthOf(1));
    Check.due(5, x.ratingOf(1));
    Check.due(0, x.playsOf(1));
    Check.due(0, x.tagBits(1));
    Check.due(3, x.tracks());
    x.removeTrack(2);
    Check.due(3, x.addTrack(200, 3));
  }

  private static void addTrackRefused() {
    Smartcrate x = new Smartcrate();
    for (int length : new int[] {0, -1, 1000, Integer.MIN_VALUE, Integer.MAX_VALUE}) {
      Check.refused(x, RANGE, () -> x.addTrack(length, 3));
    }
    for (int rating : new int[] {-1, 6, Integer.MIN_VALUE, Integer.MAX_VALUE}) {
      Check.refused(x, RANGE, () -> x.addTrack(200, rating));
    }
    for (int track = 0; track < 24; track++) {
      Check.due(track, x.addTrack(100 + track, track % 6));
    }
    Check.refused(x, STATE, () -> x.addTrack(200, 3));
    Check.refused(x, RANGE, () -> x.addTrack(0, 3));
    x.removeTrack(23);
    Check.refused(x, STATE, () -> x.addTrack(200, 3));
  }

  private static void removeTrack() {
    Smartcrate x = two();
    for (int track : WRONG) {
      Check.refused(x, NONE, () -> x.removeTrack(track));
    }
    Check.due(1, x.removeTrack(0));
    Check.refused(x, NONE, () -> x.removeTrack(0));
    Check.refused(x, NONE, () -> x.setRating(0, 9));
    Check.refused(x, NONE, () -> x.play(0));
    Check.refused(x, NONE, () -> x.lengthOf(0));
    Check.due(300, x.lengthOf(1));
    Check.due(0, x.removeTrack(1));
  }

  private static void setRating() {
    Smartcrate x = two();
    Check.due(3, x.setRating(0, 0));
    Check.due(0, x.setRating(0, 5));
    Check.due(5, x.setRating(1, 5));
    Check.due(5, x.ratingOf(0));
    for (int track : WRONG) {
      Check.refused(x, NONE, () -> x.setRating(track, 6));
    }
    Check.refused(x, RANGE, () -> x.setRating(0, 6));
    Check.refused(x, RANGE, () -> x.setRating(0, -1));
  }

  private static void play() {
    Smartcrate x = two();
    Check.due(1, x.play(0));
    Check.due(2, x.play(0));
    Check.due(1, x.play(1));
    x.pass(7);
    Check.due(2, x.play(1));
    Check.due(0, x.playedLast(0));
    Check.due(7, x.playedLast(1));
    for (int track : WRONG) {
      Check.refused(x, NONE, () -> x.play(track));
    }
  }

  /** Beyond the calls for which the document promises something, but as it says. */
  private static void playOften() {
    Smartcrate x = two();
    for (int plays = 1; plays <= 999; plays++) {
      Check.due(plays, x.play(0));
    }
    Check.refused(x, STATE, () -> x.play(0));
    Check.due(999, x.playsOf(0));
  }

  private static void pass() {
    Smartcrate x = new Smartcrate();
    Check.due(1, x.pass(1));
    Check.due(366, x.pass(365));
    for (int days : new int[] {0, -1, 366, Integer.MIN_VALUE, Integer.MAX_VALUE}) {
      Check.refused(x, RANGE, () -> x.pass(days));
    }
  }

  private static void passToTheLastDay() {
    Smartcrate x = new Smartcrate();
    for (int years = 1; years <= 27; years++) {
      Check.due(365 * years, x.pass(365));
    }
    Check.refused(x, STATE, () -> x.pass(145));
    Check.due(9999, x.pass(144));
    Check.refused(x, STATE, () -> x.pass(1));
    Check.refused(x, RANGE, () -> x.pass(0));
    Check.refused(x, RANGE, () -> x.pass(366));
  }

  private static void tracks() {
    Smartcrate x = two();
    Check.due(2, x.tracks());
    x.removeTrack(0);
    Check.due(1, x.tracks());
    x.addTrack(1, 1);
    Check.due(2, x.tracks());
  }

  private static void today() {
    Smartcrate x = new Smartcrate();
    x.pass(3);
    x.pass(4);
    Check.due(7, x.today());
  }

  private static void lengthOf() {
    Smartcrate x = two();
    Check.due(200, x.lengthOf(0));
    Check.due(300, x.lengthOf(1));
    for (int track : WRONG) {
      Check.refused(x, NONE, () -> x.lengthOf(track));
    }
    x.removeTrack(1);
    Check.refused(x, NONE, () -> x.lengthOf(1));
  }

  private static void ratingOf() {
    Smartcrate x = two();
    Check.due(3, x.ratingOf(0));
    x.setRating(0, 4);
    Check.due(4, x.ratingOf(0));
    for (int track : WRONG) {
      Check.refused(x, NONE, () -> x.ratingOf(track));
    }
    x.removeTrack(1);
    Check.refused(x, NONE, () -> x.ratingOf(1));
  }

  private static void playsOf() {
    Smartcrate x = two();
    Check.due(0, x.playsOf(0));
    x.play(0);
    x.play(0);
    Check.due(2, x.playsOf(0));
    Check.due(0, x.playsOf(1));
    for (int track : WRONG) {
      Check.refused(x, NONE, () -> x.playsOf(track));
    }
    x.removeTrack(0);
    Check.refused(x, NONE, () -> x.playsOf(0));
  }

  private static void playedLast() {
    Smartcrate x = two();
    Check.refused(x, STATE, () -> x.playedLast(0));
    x.play(0);
    Check.due(0, x.playedLast(0));
    x.pass(5);
    Check.due(0, x.playedLast(0));
    x.play(0);
    x.pass(5);
    Check.due(5, x.playedLast(0));
    Check.refused(x, STATE, () -> x.playedLast(1));
    for (int track : WRONG) {
      Check.refused(x, NONE, () -> x.playedLast(track));
    }
    x.removeTrack(0);
    Check.refused(x, NONE, () -> x.playedLast(0));
  }

  private static void seconds() {
    Smartcrate x = two();
    x.play(0);
    x.play(1);
    x.play(0);
    Check.due(700L, x.seconds());
    x.removeTrack(0);
    Check.due(700L, x.seconds());
    x.play(1);
    Check.due(1000L, x.seconds());
  }
}
