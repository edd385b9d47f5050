import java.util.ArrayList;
import java.util.Arrays;
import java.util.List;
import java.util.NoSuchElementException;

/** Promises 22 to 25, 40 to 49, 51 and 52: lists and their figures. */
final class ListTests {
  private static final Class<NoSuchElementException> NONE = NoSuchElementException.class;
  private static final Class<IllegalArgumentException> RANGE = IllegalArgumentException.class;
  private static final Class<IllegalStateException> STATE = IllegalStateException.class;
  private static final Class<UnsupportedOperationException> CIRCLE =
      UnsupportedOperationException.class;
  private static final int LOW = Integer.MIN_VALUE;
  private static final int HIGH = Integer.MAX_VALUE;
  private static final int[] WRONG = {-1, 6, 7, 8, 32, LOW, HIGH};
  private static final int EVERY = 0;
  private static final int GOOD = 1;

  private ListTests() {}

  static void run() {
    Check.test("promise 22: addList", ListTests::addList);
    Check.test("promise 22: addList refused", ListTests::addListRefused);
    Check.test("promise 23: setRule", ListTests::setRule);
    Check.test("promise 23: setRule, no list depends on itself", ListTests::setRuleCircles);
    Check.test("promise 24: setOrder", ListTests::setOrder);
    Check.test("promise 24: setOrder, the four orders", ListTests::orders);
    Check.test("promise 25: setLimit", ListTests::setLimit);
    Check.test("promise 25: setLimit, what is too much is left out", ListTests::limits);
    Check.test("promise 40: matches", ListTests::matches);
    Check.test("promise 41: size", ListTests::size);
    Check.test("promise 42: trackAt", ListTests::trackAt);
    Check.test("promise 43: contains", ListTests::contains);
    Check.test("promises 43 and 44: a chain of eight lists", ListTests::chain);
    Check.test("promise 44: containsByRounds", ListTests::containsByRounds);
    Check.test("promise 45: secondsOf", ListTests::secondsOf);
    Check.test("promise 46: common", ListTests::common);
    Check.test("promise 47: dependsOn", ListTests::dependsOn);
    Check.test("promise 48: touched", ListTests::touched);
    Check.test("promise 48: touched by each kind of change", ListTests::touchedByEach);
    Check.test("promise 49: mixes", ListTests::mixes);
    Check.test("promise 49: mixes, the greatest product", ListTests::mixesAtMost);
    Check.test("promise 51: listedShare", ListTests::listedShare);
    Check.test("promise 52: meanLength", ListTests::meanLength);
  }

  /**
   * The tracks 0 to 3 with 200 s, 300 s, 100 s and 250 s, rated 3, 5, 1 and 5; the rule 0 holds for
   * every track, the rule 1 for those that are rated 3 or more; the list 0 takes them all, the
   * shortest ones first.
   */
  private static Smartcrate four() {
    Smartcrate x = new Smartcrate();
    x.addTrack(200, 3);
    x.addTrack(300, 5);
    x.addTrack(100, 1);
    x.addTrack(250, 5);
    x.rated(0);
    x.rated(3);
    x.addList(EVERY, 's', 0);
    return x;
  }

  private static void dueTracks(Smartcrate x, int list, Integer... tracks) {
    List<Integer> got = new ArrayList<>();
    for (int rank = 0; rank < x.size(list); rank++) {
      got.add(x.trackAt(list, rank));
    }
    Check.due(Arrays.asList(tracks), got);
    for (int track = 0; track < 4; track++) {
      int asked = track;
      if (x.tracks() == 4) {
        Check.due(got.contains(asked), x.contains(list, asked));
        Check.due(got.contains(asked), x.containsByRounds(list, asked));
      }
    }
  }

  private static void addList() {
    Smartcrate x = four();
    Check.due(1, x.addList(GOOD, 's', 450));
    Check.due(2, x.addList(GOOD, 'r', 9999));
    Check.due(3, x.addList(EVERY, 'p', 0));
    Check.due(4, x.addList(EVERY, 'n', 1));
    dueTracks(x, 0, 2, 0, 3, 1);
    dueTracks(x, 1, 0, 3);
    dueTracks(x, 2, 1, 3, 0);
    dueTracks(x, 3, 0, 1, 2, 3);
    dueTracks(x, 4);
  }

  private static void addListRefused() {
    Smartcrate x = four();
    for (int rule : new int[] {-1, 2, 39, 40, LOW, HIGH}) {
      Check.refused(x, NONE, () -> x.addList(rule, 'x', -1));
    }
    for (char order : new char[] {'x', 'S', 0, 'q', 't', 's' + 256, 0xFFFF}) {
      Check.refused(x, RANGE, () -> x.addList(EVERY, order, 0));
    }
    for (int limit : new int[] {-1, 10000, LOW, HIGH}) {
      Check.refused(x, RANGE, () -> x.addList(EVERY, 's', limit));
    }
    for (int list = 1; list < 8; list++) {
      Check.due(list, x.addList(EVERY, 's', 0));
    }
    Check.refused(x, STATE, () -> x.addList(EVERY, 's', 0));
    Check.refused(x, RANGE, () -> x.addList(EVERY, 'x', 0));
    Check.refused(x, RANGE, () -> x.addList(EVERY, 's', 10000));
    Check.refused(x, NONE, () -> x.addList(2, 's', 0));
  }

  private static void setRule() {
    Smartcrate x = four();
    Check.due(0, x.setRule(0, GOOD));
    dueTracks(x, 0, 0, 3, 1);
    Check.due(1, x.setRule(0, GOOD));
    Check.due(1, x.setRule(0, x.not(GOOD)));
    dueTracks(x, 0, 2);
    for (int list : WRONG) {
      Check.refused(x, NONE, () -> x.setRule(list, 0));
    }
    for (int rule : new int[] {-1, 3, 39, 40, LOW, HIGH}) {
      Check.refused(x, NONE, () -> x.setRule(0, rule));
    }
  }

  private static void setRuleCircles() {
    Smartcrate x = four();
    int inZero = x.inList(0);
    x.addList(x.both(GOOD, x.not(inZero)), 's', 0);
    int inOne = x.inList(1);
    x.addList(x.either(inOne, inOne), 's', 0);
    int inTwo = x.not(x.inList(2));
    Check.refused(x, CIRCLE, () -> x.setRule(0, inZero));
    Check.refused(x, CIRCLE, () -> x.setRule(0, inOne));
    Check.refused(x, CIRCLE, () -> x.setRule(0, inTwo));
    Check.refused(x, CIRCLE, () -> x.setRule(1, inTwo));
    Check.refused(x, CIRCLE, () -> x.setRule(2, inTwo));
    Check.due(EVERY, x.setRule(0, GOOD));
    dueTracks(x, 1);
    // When the list 1 asks for no other one any more, the list 0 may ask for it.
    x.setRule(1, GOOD);
    Check.due(GOOD, x.setRule(0, inTwo));
    dueTracks(x, 2, 0, 3, 1);
    dueTracks(x, 0, 2);
    Check.refused(x, CIRCLE, () -> x.setRule(1, inZero));
  }

  private static void setOrder() {
    Smartcrate x = four();
    Check.due('s', x.setOrder(0, 'r'));
    Check.due('r', x.setOrder(0, 'p'));
    Check.due('p', x.setOrder(0, 'n'));
    Check.due('n', x.setOrder(0, 's'));
    Check.due('s', x.setOrder(0, 's'));
    for (int list : WRONG) {
      Check.refused(x, NONE, () -> x.setOrder(list, 'x'));
    }
    for (char order : new char[] {'x', 'R', 0, 'o', 'n' + 256, 0xFFFF}) {
      Check.refused(x, RANGE, () -> x.setOrder(0, order));
    }
  }

  private static void orders() {
    Smartcrate x = four();
    dueTracks(x, 0, 2, 0, 3, 1);
    x.setOrder(0, 'r');
    dueTracks(x, 0, 1, 3, 0, 2);
    x.setOrder(0, 'n');
    dueTracks(x, 0, 3, 2, 1, 0);
    x.setOrder(0, 'p');
    dueTracks(x, 0, 0, 1, 2, 3);
    x.play(0);
    x.play(0);
    x.play(1);
    dueTracks(x, 0, 2, 3, 1, 0);
    x.setOrder(0, 's');
    x.addTrack(200, 0);
    Check.due(0, x.trackAt(0, 1));
    Check.due(4, x.trackAt(0, 2));
  }

  private static void setLimit() {
    Smartcrate x = four();
    Check.due(0, x.setLimit(0, 9999));
    Check.due(9999, x.setLimit(0, 1));
    Check.due(1, x.setLimit(0, 0));
    for (int list : WRONG) {
      Check.refused(x, NONE, () -> x.setLimit(list, -1));
    }
    for (int limit : new int[] {-1, 10000, LOW, HIGH}) {
      Check.refused(x, RANGE, () -> x.setLimit(0, limit));
    }
  }

  private static void limits() {
    Smartcrate x = four();
    x.setLimit(0, 849);
    dueTracks(x, 0, 2, 0, 3);
    x.setLimit(0, 850);
    dueTracks(x, 0, 2, 0, 3, 1);
    x.setOrder(0, 'r');
    x.setLimit(0, 300);
    dueTracks(x, 0, 1);
    x.setLimit(0, 299);
    dueTracks(x, 0, 3);
    x.setOrder(0, 's');
    dueTracks(x, 0, 2);
    x.setOrder(0, 'r');
    // The tracks 3 and 0 are too much behind the track 1, the track 2 is not.
    x.setLimit(0, 400);
    dueTracks(x, 0, 1, 2);
    x.setLimit(0, 99);
    dueTracks(x, 0);
  }

  private static void matches() {
    Smartcrate x = four();
    x.addList(GOOD, 's', 200);
    Check.due(4, x.matches(0));
    Check.due(3, x.matches(1));
    Check.due(1, x.size(1));
    x.setRating(2, 5);
    Check.due(4, x.matches(1));
    x.removeTrack(0);
    Check.due(3, x.matches(1));
    x.addList(x.not(x.inList(1)), 's', 0);
    Check.due(2, x.matches(2));
    for (int list : WRONG) {
      Check.refused(x, NONE, () -> x.matches(list));
    }
  }

  private static void size() {
    Smartcrate x = four();
    Check.due(4, x.size(0));
    x.setLimit(0, 300);
    Check.due(2, x.size(0));
    x.removeTrack(2);
    Check.due(1, x.size(0));
    x.addTrack(10, 0);
    Check.due(2, x.size(0));
    for (int list : WRONG) {
      Check.refused(x, NONE, () -> x.size(list));
    }
  }

  private static void trackAt() {
    Smartcrate x = four();
    Check.due(2, x.trackAt(0, 0));
    Check.due(1, x.trackAt(0, 3));
    for (int rank : new int[] {-1, 4, 24, LOW, HIGH}) {
      Check.refused(x, IndexOutOfBoundsException.class, () -> x.trackAt(0, rank));
    }
    for (int list : WRONG) {
      Check.refused(x, NONE, () -> x.trackAt(list, -1));
    }
    x.setLimit(0, 1);
    Check.refused(x, IndexOutOfBoundsException.class, () -> x.trackAt(0, 0));
  }

  private static void contains() {
    Smartcrate x = four();
    x.addList(GOOD, 's', 0);
    Check.due(true, x.contains(1, 0));
    Check.due(false, x.contains(1, 2));
    x.setRating(0, 2);
    Check.due(false, x.contains(1, 0));
    for (int list : WRONG) {
      Check.refused(x, NONE, () -> x.contains(list, 0));
    }
    for (int track : new int[] {-1, 4, 23, 24, 32, LOW, HIGH}) {
      Check.refused(x, NONE, () -> x.contains(0, track));
    }
    x.removeTrack(0);
    Check.refused(x, NONE, () -> x.contains(0, 0));
  }

  /** Each list asks for the one with the next number, so that they are filled from behind. */
  private static void chain() {
    Smartcrate x = four();
    for (int list = 1; list < 8; list++) {
      x.addList(GOOD, 's', 0);
    }
    for (int list = 0; list < 7; list++) {
      x.setRule(list, x.not(x.inList(list + 1)));
    }
    for (int list = 0; list < 8; list++) {
      boolean good = list % 2 == 1;
      Check.due(good, x.contains(list, 0));
      Check.due(!good, x.contains(list, 2));
      Check.due(good, x.containsByRounds(list, 0));
      Check.due(!good, x.containsByRounds(list, 2));
      Check.due(list < 7, x.dependsOn(list, 7));
      Check.due(false, x.dependsOn(7, list));
    }
    x.setRating(2, 3);
    Check.due(8, x.touched());
    x.removeTrack(2);
    Check.due(4, x.touched());
  }

  private static void containsByRounds() {
    Smartcrate x = four();
    x.addList(GOOD, 'r', 300);
    x.setRule(0, x.not(x.inList(1)));
    Check.due(true, x.containsByRounds(1, 1));
    Check.due(false, x.containsByRounds(1, 0));
    Check.due(false, x.containsByRounds(0, 1));
    Check.due(true, x.containsByRounds(0, 0));
    for (int list : WRONG) {
      Check.refused(x, NONE, () -> x.containsByRounds(list, 0));
    }
    for (int track : new int[] {-1, 4, 23, 24, 32, LOW, HIGH}) {
      Check.refused(x, NONE, () -> x.containsByRounds(0, track));
    }
    x.removeTrack(1);
    Check.due(true, x.containsByRounds(1, 3));
    Check.refused(x, NONE, () -> x.containsByRounds(0, 1));
  }

  private static void secondsOf() {
    Smartcrate x = four();
    Check.due(850, x.secondsOf(0));
    x.setLimit(0, 349);
    Check.due(300, x.secondsOf(0));
    x.setLimit(0, 99);
    Check.due(0, x.secondsOf(0));
    for (int list : WRONG) {
      Check.refused(x, NONE, () -> x.secondsOf(list));
    }
  }

  private static void common() {
    Smartcrate x = four();
    x.addList(GOOD, 's', 0);
    x.addList(x.not(GOOD), 's', 0);
    Check.due(3, x.common(0, 1));
    Check.due(1, x.common(2, 0));
    Check.due(0, x.common(1, 2));
    Check.due(4, x.common(0, 0));
    for (int list : WRONG) {
      Check.refused(x, NONE, () -> x.common(list, 0));
      Check.refused(x, NONE, () -> x.common(0, list));
    }
  }

  private static void dependsOn() {
    Smartcrate x = four();
    x.addList(x.not(x.inList(0)), 's', 0);
    x.addList(x.both(x.inList(1), GOOD), 's', 0);
    x.addList(GOOD, 's', 0);
    Check.due(true, x.dependsOn(1, 0));
    Check.due(true, x.dependsOn(2, 1));
    Check.due(true, x.dependsOn(2, 0));
    Check.due(false, x.dependsOn(0, 2));
    Check.due(false, x.dependsOn(0, 1));
    Check.due(false, x.dependsOn(3, 0));
    Check.due(false, x.dependsOn(0, 3));
    Check.due(false, x.dependsOn(2, 2));
    x.setRule(1, GOOD);
    Check.due(false, x.dependsOn(2, 0));
    Check.due(true, x.dependsOn(2, 1));
    for (int list : WRONG) {
      Check.refused(x, NONE, () -> x.dependsOn(list, 0));
      Check.refused(x, NONE, () -> x.dependsOn(0, list));
    }
  }

  private static void touched() {
    Smartcrate x = four();
    Check.due(0, x.touched());
    x.addList(GOOD, 's', 0);
    x.addList(x.not(x.inList(1)), 's', 0);
    x.setRating(2, 4);
    Check.due(2, x.touched());
    // What is not among the changes leaves the answer alone, and so does what is refused.
    x.addTag();
    x.letter(0, 'a');
    x.rated(2);
    x.addList(GOOD, 's', 0);
    x.size(0);
    Check.refused(x, NONE, () -> x.play(9));
    Check.refused(x, RANGE, () -> x.setRating(0, 6));
    Check.due(2, x.touched());
    x.setRating(2, 5);
    Check.due(0, x.touched());
    // Another order of the same tracks is no other set of tracks.
    x.setOrder(0, 'r');
    Check.due(0, x.touched());
    x.setRating(2, 0);
    Check.due(3, x.touched());
    // A list that loses a track and takes another one has another set of the same size.
    x.setLimit(0, 200);
    Check.due(1, x.touched());
    dueTracks(x, 0, 0);
    x.setOrder(0, 's');
    Check.due(1, x.touched());
    dueTracks(x, 0, 2);
    x.setOrder(0, 's');
    Check.due(0, x.touched());
  }

  private static void touchedByEach() {
    Smartcrate x = four();
    x.addTag();
    x.addTag();
    x.setRule(0, x.hasTag(0));
    Check.due(1, x.touched());
    x.tag(0, 0);
    Check.due(1, x.touched());
    x.untag(0, 0);
    Check.due(1, x.touched());
    x.tag(0, 1);
    Check.due(0, x.touched());
    x.tidy(0, 1);
    Check.due(1, x.touched());
    x.undoTidy();
    Check.due(1, x.touched());
    x.setRule(0, x.playedWithin(0));
    Check.due(0, x.touched());
    x.play(0);
    Check.due(1, x.touched());
    x.play(0);
    Check.due(0, x.touched());
    x.pass(1);
    Check.due(1, x.touched());
    x.pass(1);
    Check.due(0, x.touched());
    x.setRule(0, EVERY);
    Check.due(1, x.touched());
    x.addTrack(10, 0);
    Check.due(1, x.touched());
    x.removeTrack(4);
    Check.due(1, x.touched());
    x.setRule(0, EVERY);
    Check.due(0, x.touched());
    x.setLimit(0, 100);
    Check.due(1, x.touched());
    x.removeTrack(1);
    Check.due(0, x.touched());
    x.addTrack(500, 0);
    Check.due(0, x.touched());
  }

  private static void mixes() {
    Smartcrate x = four();
    x.addList(GOOD, 's', 0);
    Check.due(1, x.mixes(0));
    x.play(0);
    x.play(0);
    x.play(2);
    Check.due(6, x.mixes(0));
    Check.due(3, x.mixes(1));
    x.play(1);
    Check.due(6, x.mixes(1));
    x.removeTrack(0);
    Check.due(4, x.mixes(0));
    x.setLimit(0, 1);
    Check.due(1, x.mixes(0));
    for (int list : WRONG) {
      Check.refused(x, NONE, () -> x.mixes(list));
    }
  }

  /** Plays the tracks, so that the factors are these, and asks for the product. */
  private static Smartcrate played(int... factors) {
    Smartcrate x = new Smartcrate();
    x.rated(0);
    x.addList(0, 's', 0);
    for (int factor : factors) {
      int track = x.addTrack(1, 0);
      for (int plays = 1; plays < factor; plays++) {
        x.play(track);
      }
    }
    return x;
  }

  private static void mixesAtMost() {
    // 2147483646 is 2 * 3 * 3 * 7 * 11 * 31 * 151 * 331, and 2147483648 is 2 to the 31st.
    Check.due(2147483646, played(2, 3, 3, 7, 11, 31, 151, 331).mixes(0));
    Smartcrate over = played(64, 64, 64, 64, 64, 2);
    Check.refused(over, ArithmeticException.class, () -> over.mixes(0));
    Smartcrate far = played(17, 17, 17, 17, 17, 17, 17, 17, 17, 17, 17, 17, 17, 17, 17, 17, 17);
    Check.refused(far, ArithmeticException.class, () -> far.mixes(0));
    far.setLimit(0, 7);
    Check.due(410338673, far.mixes(0));
  }

  private static void listedShare() {
    Smartcrate x = four();
    Check.due(1.0f, x.listedShare());
    x.addList(GOOD, 's', 200);
    x.setRule(0, x.not(GOOD));
    Check.due(0.5f, x.listedShare());
    x.removeTrack(3);
    Check.due(2.0f / 3.0f, x.listedShare());
    x.setRule(0, GOOD);
    x.setLimit(0, 1);
    x.setLimit(1, 1);
    Check.due(0.0f, x.listedShare());
    x.removeTrack(0);
    x.removeTrack(1);
    x.removeTrack(2);
    Check.refused(x, ArithmeticException.class, () -> x.listedShare());
  }

  private static void meanLength() {
    Smartcrate x = four();
    Check.due(212.5, x.meanLength(0));
    x.setLimit(0, 300);
    Check.due(150.0, x.meanLength(0));
    x.removeTrack(0);
    x.addTrack(101, 0);
    x.addTrack(99, 0);
    x.addTrack(1, 0);
    Check.due(200.0 / 3.0, x.meanLength(0));
    x.setLimit(0, 0);
    Check.due(851.0 / 6.0, x.meanLength(0));
    x.setRule(0, x.not(EVERY));
    Check.refused(x, ArithmeticException.class, () -> x.meanLength(0));
    for (int list : WRONG) {
      Check.refused(x, NONE, () -> x.meanLength(list));
    }
  }
}
