import java.util.NoSuchElementException;

/** Promises 7 to 12 and 32 to 37: tags, their names, and making them one. */
final class TagTests {
  private static final Class<NoSuchElementException> NONE = NoSuchElementException.class;
  private static final Class<IllegalArgumentException> RANGE = IllegalArgumentException.class;
  private static final Class<IllegalStateException> STATE = IllegalStateException.class;
  private static final Class<UnsupportedOperationException> FAR =
      UnsupportedOperationException.class;
  private static final int[] WRONG = {-1, 5, 16, 17, 24, Integer.MIN_VALUE, Integer.MAX_VALUE};

  private TagTests() {}

  static void run() {
    Check.test("promise 7: addTag", TagTests::addTag);
    Check.test("promise 8: letter", TagTests::letter);
    Check.test("promise 9: tag", TagTests::tag);
    Check.test("promise 10: untag", TagTests::untag);
    Check.test("promise 11: tidy", TagTests::tidy);
    Check.test("promise 11: tidy refused", TagTests::tidyRefused);
    Check.test("promise 11: tidy, rules mean the tag", TagTests::tidyAndRules);
    Check.test("promise 12: undoTidy", TagTests::undoTidy);
    Check.test("promise 12: undoTidy, one behind another", TagTests::undoSeveral);
    Check.test("promise 12: undoTidy refused by tag and untag", TagTests::undoRefused);
    Check.test("promise 12: undoTidy and other changes since", TagTests::undoWithChangesSince);
    Check.test("promise 32: tagBits", TagTests::tagBits);
    Check.test("promise 33: nameLength", TagTests::nameLength);
    Check.test("promise 34: nameAt", TagTests::nameAt);
    Check.test("promises 35 and 36: distances", TagTests::distances);
    Check.test("promises 35 and 36: distances refused", TagTests::distancesRefused);
    Check.test("promise 37: nearest", TagTests::nearest);
  }

  /** A library with tags of these names. */
  static Smartcrate named(String... names) {
    Smartcrate x = new Smartcrate();
    for (String name : names) {
      int tag = x.addTag();
      for (char letter : name.toCharArray()) {
        x.letter(tag, letter);
      }
    }
    return x;
  }

  /** The same with the tracks 0 to 3, of which 0 has the tag 0, 1 the tag 1, and 2 has both. */
  private static Smartcrate tagged(String... names) {
    Smartcrate x = named(names);
    for (int track = 0; track < 4; track++) {
      x.addTrack(100, 0);
    }
    x.tag(0, 0);
    x.tag(1, 1);
    x.tag(2, 0);
    x.tag(2, 1);
    return x;
  }

  private static void addTag() {
    Smartcrate x = named("a", "b");
    x.tidy(0, 1);
    for (int tag = 2; tag < 16; tag++) {
      Check.due(tag, x.addTag());
      Check.due(0, x.nameLength(tag));
    }
    Check.refused(x, STATE, () -> x.addTag());
    Check.refused(x, NONE, () -> x.nameLength(1));
  }

  private static void letter() {
    Smartcrate x = named("", "");
    Check.due(1, x.letter(0, 'a'));
    Check.due(2, x.letter(0, 'z'));
    Check.due(1, x.letter(1, 'm'));
    for (char letter : new char[] {'a' - 1, 'z' + 1, 'A', ' ', 0, 0xFFFF, 'a' + 256}) {
      Check.refused(x, RANGE, () -> x.letter(0, letter));
    }
    for (int tag : WRONG) {
      Check.refused(x, NONE, () -> x.letter(tag, 'A'));
    }
    for (int letters = 3; letters <= 6; letters++) {
      Check.due(letters, x.letter(0, 'b'));
    }
    Check.refused(x, STATE, () -> x.letter(0, 'b'));
    Check.refused(x, RANGE, () -> x.letter(0, 'B'));
    Smartcrate y = named("a", "b");
    y.tidy(1, 0);
    Check.refused(y, NONE, () -> y.letter(0, 'a'));
  }

  private static void tag() {
    Smartcrate x = tagged("rock", "rok", "jazz");
    Check.due(1, x.tag(3, 2));
    Check.due(3, x.tag(2, 2));
    Check.due(7, x.tagBits(2));
    Check.refused(x, STATE, () -> x.tag(2, 2));
    for (int wrong : WRONG) {
      Check.refused(x, NONE, () -> x.tag(wrong, 0));
      Check.refused(x, NONE, () -> x.tag(0, wrong));
    }
    x.tidy(0, 1);
    Check.refused(x, NONE, () -> x.tag(3, 1));
    x.removeTrack(3);
    Check.refused(x, NONE, () -> x.tag(3, 0));
  }

  private static void untag() {
    Smartcrate x = tagged("rock", "rok", "jazz");
    Check.due(1, x.untag(2, 0));
    Check.due(2, x.tagBits(2));
    Check.due(0, x.untag(2, 1));
    Check.refused(x, STATE, () -> x.untag(2, 1));
    Check.refused(x, STATE, () -> x.untag(0, 2));
    for (int wrong : WRONG) {
      Check.refused(x, NONE, () -> x.untag(wrong, 0));
      Check.refused(x, NONE, () -> x.untag(0, wrong));
    }
    x.tidy(0, 1);
    Check.refused(x, NONE, () -> x.untag(1, 1));
    x.removeTrack(0);
    Check.refused(x, NONE, () -> x.untag(0, 0));
  }

  private static void tidy() {
    Smartcrate x = tagged("rock", "rok", "jazz", "", "x");
    x.tag(2, 2);
    Check.due(2, x.tidy(0, 1));
    Check.due(1, x.tagBits(0));
    Check.due(1, x.tagBits(1));
    Check.due(5, x.tagBits(2));
    Check.due(0, x.tagBits(3));
    Check.refused(x, NONE, () -> x.nameLength(1));
    Check.due(4, x.nameLength(0));
    Check.due(0, x.tidy(4, 3));
    x.removeTrack(2);
    x.addTag();
    x.letter(5, 'r');
    x.letter(5, 'o');
    x.letter(5, 'c');
    Check.due(2, x.tidy(5, 0));
    Check.due(32, x.tagBits(1));
  }

  private static void tidyRefused() {
    Smartcrate x = tagged("rock", "rko", "jazz", "rocks", "rock");
    for (int wrong : WRONG) {
      Check.refused(x, NONE, () -> x.tidy(wrong, wrong));
      Check.refused(x, NONE, () -> x.tidy(0, wrong));
      Check.refused(x, NONE, () -> x.tidy(wrong, 0));
    }
    Check.refused(x, RANGE, () -> x.tidy(0, 0));
    Check.refused(x, FAR, () -> x.tidy(0, 1));
    Check.refused(x, FAR, () -> x.tidy(2, 0));
    Check.due(0, x.tidy(0, 3));
    Check.due(0, x.tidy(0, 4));
    Check.refused(x, NONE, () -> x.tidy(0, 4));
    Check.refused(x, NONE, () -> x.tidy(4, 0));
    Check.refused(x, NONE, () -> x.tidy(4, 4));
  }

  private static void tidyAndRules() {
    Smartcrate x = tagged("rock", "rok", "rocks");
    int rock = x.hasTag(0);
    int rok = x.hasTag(1);
    int rocks = x.hasTag(2);
    int list = x.addList(rok, 'n', 0);
    Check.due(2, x.matches(list));
    x.tidy(0, 1);
    Check.due(1, x.touched());
    Check.due(3, x.size(list));
    Check.due(true, x.holds(rok, 0));
    x.tidy(2, 0);
    Check.due(0, x.touched());
    Check.due(true, x.holds(rok, 0));
    Check.due(true, x.holds(rock, 0));
    Check.due(true, x.holds(rocks, 0));
    Check.refused(x, NONE, () -> x.hasTag(0));
    Check.refused(x, NONE, () -> x.hasTag(1));
    x.undoTidy();
    Check.due(false, x.holds(rocks, 0));
    Check.due(true, x.holds(rok, 0));
    x.undoTidy();
    Check.due(false, x.holds(rok, 0));
    Check.due(true, x.holds(rock, 0));
  }

  private static void undoTidy() {
    Smartcrate x = tagged("rock", "rok", "jazz");
    Check.refused(x, STATE, () -> x.undoTidy());
    x.tidy(0, 1);
    Check.due(1, x.undoTidy());
    Check.due(1, x.tagBits(0));
    Check.due(2, x.tagBits(1));
    Check.due(3, x.tagBits(2));
    Check.due(0, x.tagBits(3));
    Check.due(3, x.nameLength(1));
    Check.due('k', x.nameAt(1, 2));
    Check.refused(x, STATE, () -> x.undoTidy());
    x.tidy(1, 0);
    Check.due(2, x.tagBits(0));
    Check.due(0, x.undoTidy());
    Check.due(1, x.tagBits(0));
  }

  private static void undoSeveral() {
    Smartcrate x = tagged("rock", "rok", "rocks", "rocky");
    x.tag(3, 2);
    x.tidy(0, 1);
    x.tidy(2, 0);
    x.tidy(2, 3);
    Check.due(4, x.tagBits(2));
    Check.due(3, x.undoTidy());
    x.tidy(3, 2);
    Check.due(8, x.tagBits(3));
    Check.due(2, x.undoTidy());
    Check.due(0, x.undoTidy());
    Check.due(1, x.tagBits(1));
    Check.due(4, x.tagBits(3));
    Check.due(1, x.undoTidy());
    Check.due(2, x.tagBits(1));
    Check.due(3, x.tagBits(2));
    Check.refused(x, STATE, () -> x.undoTidy());
  }

  private static void undoRefused() {
    Smartcrate x = tagged("rock", "rok", "rocks", "jazz");
    x.tidy(0, 1);
    x.tag(0, 3);
    Check.refused(x, STATE, () -> x.undoTidy());
    x.untag(0, 3);
    Check.refused(x, STATE, () -> x.undoTidy());
    x.tidy(0, 2);
    Check.due(2, x.undoTidy());
    // The one ahead of tag() is the latest now, and is too old.
    Check.refused(x, STATE, () -> x.undoTidy());
    x.tidy(0, 2);
    x.untag(0, 0);
    Check.refused(x, STATE, () -> x.undoTidy());
    Check.refused(x, NONE, () -> x.nameLength(2));

    Smartcrate y = tagged("rock", "rok");
    y.tidy(0, 1);
    y.tag(3, 0);
    y.removeTrack(3);
    Check.refused(y, STATE, () -> y.undoTidy());
  }

  private static void undoWithChangesSince() {
    Smartcrate x = tagged("rock", "rok");
    int rok = x.hasTag(1);
    x.addList(rok, 's', 0);
    x.tidy(0, 1);
    Check.refused(x, STATE, () -> x.tag(0, 0));
    Check.refused(x, STATE, () -> x.untag(3, 0));
    Check.refused(x, NONE, () -> x.tag(0, 1));
    x.letter(0, 'y');
    x.addTag();
    x.addTrack(50, 1);
    x.play(0);
    x.pass(1);
    x.setRating(1, 2);
    x.removeTrack(2);
    Check.due(1, x.undoTidy());
    Check.due(1, x.touched());
    Check.due(1, x.tagBits(0));
    Check.due(2, x.tagBits(1));
    Check.due(0, x.tagBits(4));
    Check.refused(x, NONE, () -> x.tagBits(2));
    Check.due(1, x.size(0));
    Check.due(5, x.nameLength(0));
    Check.refused(x, FAR, () -> x.tidy(0, 1));
  }

  private static void tagBits() {
    Smartcrate x = named("", "", "", "", "", "", "", "", "", "", "", "", "", "", "", "");
    x.addTrack(1, 1);
    Check.due(0, x.tagBits(0));
    for (int tag = 0; tag < 16; tag++) {
      Check.due(tag + 1, x.tag(0, tag));
    }
    Check.due(65535, x.tagBits(0));
    x.untag(0, 3);
    Check.due(65535 - 8, x.tagBits(0));
    for (int track : new int[] {-1, 1, 23, 24, Integer.MIN_VALUE, Integer.MAX_VALUE}) {
      Check.refused(x, NONE, () -> x.tagBits(track));
    }
    x.removeTrack(0);
    Check.refused(x, NONE, () -> x.tagBits(0));
  }

  private static void nameLength() {
    Smartcrate x = named("", "a", "abcdef", "abcdeg");
    Check.due(0, x.nameLength(0));
    Check.due(1, x.nameLength(1));
    Check.due(6, x.nameLength(2));
    for (int tag : WRONG) {
      Check.refused(x, NONE, () -> x.nameLength(tag));
    }
    x.tidy(3, 2);
    Check.refused(x, NONE, () -> x.nameLength(2));
  }

  private static void nameAt() {
    Smartcrate x = named("", "abcdez");
    Check.due('a', x.nameAt(1, 0));
    Check.due('z', x.nameAt(1, 5));
    for (int index : new int[] {-1, 6, 7, Integer.MIN_VALUE, Integer.MAX_VALUE}) {
      Check.refused(x, IndexOutOfBoundsException.class, () -> x.nameAt(1, index));
    }
    Check.refused(x, IndexOutOfBoundsException.class, () -> x.nameAt(0, 0));
    for (int tag : WRONG) {
      Check.refused(x, NONE, () -> x.nameAt(tag, 9));
    }
    Smartcrate y = named("a", "b");
    y.tidy(1, 0);
    Check.refused(y, NONE, () -> y.nameAt(0, 0));
  }

  private static void distances() {
    due(0, "", "");
    due(6, "", "abcdef");
    due(1, "rock", "rok");
    due(1, "rock", "rocks");
    due(1, "rock", "lock");
    due(2, "rock", "rokc");
    due(4, "rock", "ja");
    due(3, "kitten", "sittig");
    due(2, "abcdef", "bcdefa");
    due(6, "aaaaaa", "bbbbbb");
    due(5, "abcdef", "gbhijk");
    due(0, "abcdef", "abcdef");
    due(3, "abc", "aabbcc");
    due(3, "sunday", "sturdy");
  }

  private static void due(int distance, String one, String other) {
    Smartcrate x = named(one, other);
    Check.due(distance, x.distance(0, 1));
    Check.due(distance, x.distance(1, 0));
    Check.due(distance, x.distanceByTrying(0, 1));
    Check.due(distance, x.distanceByTrying(1, 0));
    Check.due(0, x.distance(1, 1));
    Check.due(0, x.distanceByTrying(1, 1));
  }

  private static void distancesRefused() {
    Smartcrate x = named("a", "b", "c");
    x.tidy(1, 2);
    for (int tag : new int[] {-1, 2, 3, 15, 16, Integer.MIN_VALUE, Integer.MAX_VALUE}) {
      Check.refused(x, NONE, () -> x.distance(0, tag));
      Check.refused(x, NONE, () -> x.distance(tag, 0));
      Check.refused(x, NONE, () -> x.distance(tag, tag));
      Check.refused(x, NONE, () -> x.distanceByTrying(0, tag));
      Check.refused(x, NONE, () -> x.distanceByTrying(tag, 0));
      Check.refused(x, NONE, () -> x.distanceByTrying(tag, tag));
    }
  }

  private static void nearest() {
    Smartcrate x = named("rock", "jazz", "rok", "rocks", "rock");
    Check.due(4, x.nearest(0));
    Check.due(0, x.nearest(4));
    Check.due(0, x.nearest(2));
    Check.due(0, x.nearest(1));
    x.tidy(0, 4);
    Check.due(2, x.nearest(0));
    x.tidy(0, 2);
    Check.due(3, x.nearest(0));
    x.tidy(3, 0);
    Check.due(3, x.nearest(1));
    Check.due(1, x.nearest(3));
    Check.refused(x, NONE, () -> x.nearest(0));
    for (int tag : WRONG) {
      Check.refused(x, NONE, () -> x.nearest(tag));
    }
    Smartcrate alone = named("a", "b");
    alone.tidy(0, 1);
    Check.refused(alone, STATE, () -> alone.nearest(0));
    Smartcrate far = named("aaaaaa", "bbbbbb");
    Check.due(1, far.nearest(0));
    Check.due(0, far.nearest(1));
  }
}
