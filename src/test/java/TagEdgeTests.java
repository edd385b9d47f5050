/** Edges in promises 7 to 12 and 32 to 37: each sentence that names one has its own test. */
final class TagEdgeTests {
  private static final String SIXTEEN = "abcdefghijklmnop";

  /** 16 tags with empty names; the track 0 has none of them, the track 1 has them all. */
  private static final Scene ALIKE = new Scene(TagEdgeTests::stockAlike);

  /** Tags of six letters, of five, of one and of none; the track 0 has the first two. */
  private static final Scene NAMED =
      new Scene(
          x -> {
            Scene.name(x, "abcdef");
            Scene.name(x, "abcde");
            Scene.name(x, "z");
            Scene.name(x, "");
            Scene.name(x, "ghijkl");
            x.addTrack(1, 0);
            x.tag(0, 0);
            x.tag(0, 1);
          });

  /** The tags 0 and 1 can be made one: track 0 has 0, track 1 has 1, 2 has both, 3 has none. */
  private static final Scene PAIR =
      new Scene(
          x -> {
            for (int track = 0; track < 4; track++) {
              x.addTrack(100, 1);
            }
            Scene.name(x, "rock");
            Scene.name(x, "rok");
            Scene.name(x, "jazz");
            x.tag(0, 0);
            x.tag(1, 1);
            x.tag(2, 0);
            x.tag(2, 1);
            x.hasTag(0);
            x.hasTag(1);
            x.addList(0, 'n', 0);
            x.addList(1, 'n', 0);
          });

  private static final Scene TIDIED = PAIR.then(x -> x.tidy(0, 1));

  private TagEdgeTests() {}

  static void run() {
    Check.test("promise 7: tags have numbers from 0", TagEdgeTests::tagNumbers);
    Check.test("promise 7: at most 16 tags are added", TagEdgeTests::mostTags);
    Check.test("promise 7: tags that are gone count as added", TagEdgeTests::mostTagsGone);
    Check.test("promise 7: the name is empty at first", TagEdgeTests::emptyName);
    Check.test("promise 8: letters from a to z", TagEdgeTests::letters);
    Check.test("promise 8: at most 6 letters", TagEdgeTests::mostLetters);
    Check.test("promise 8: no such tag", TagEdgeTests::letterOfNone);
    Check.test("promise 8: no such tag ahead of out of range", TagEdgeTests::letterNoneFirst);
    Check.test("promise 8: no such tag ahead of a full name", TagEdgeTests::letterGoneFirst);
    Check.test("promise 8: out of range ahead of a full name", TagEdgeTests::letterRangeFirst);
    Check.test("promise 9: no such track or tag", TagEdgeTests::tagNone);
    Check.test("promise 9: the track has the tag", TagEdgeTests::tagTwice);
    Check.test("promise 9: the track has the tag by a change", TagEdgeTests::tagBehindTidy);
    Check.test("promise 9: none ahead of having the tag", TagEdgeTests::tagNoneFirst);
    Check.test("promise 9: from 1 tag to 16 tags", TagEdgeTests::tagCounts);
    Check.test("promise 10: no such track or tag", TagEdgeTests::untagNone);
    Check.test("promise 10: the track does not have the tag", TagEdgeTests::untagTwice);
    Check.test("promise 10: none ahead of not having the tag", TagEdgeTests::untagNoneFirst);
    Check.test("promise 10: from 15 tags to none", TagEdgeTests::untagCounts);
    Check.test("promise 11: one of both does not exist", TagEdgeTests::tidyNone);
    Check.test("promise 11: one of both is gone", TagEdgeTests::tidyGone);
    Check.test("promise 11: both are the same", TagEdgeTests::tidySame);
    Check.test("promise 11: a distance of 0 or 1", TagEdgeTests::tidyNear);
    Check.test("promise 11: a distance greater than 1", TagEdgeTests::tidyFar);
    Check.test("promise 11: none ahead of the same", TagEdgeTests::tidyNoneFirst);
    Check.test("promise 11: none ahead of a distance", TagEdgeTests::tidyNoneAheadOfFar);
    Check.test("promise 11: no tracks and all tracks lose it", TagEdgeTests::tidyCounts);
    Check.test("promise 11: removed tracks are not counted", TagEdgeTests::tidyCountsRemoved);
    Check.test("promise 11: a track that has both tags", TagEdgeTests::tidyBoth);
    Check.test("promise 11: the other tag is gone", TagEdgeTests::tidyGoneEverywhere);
    Check.test("promise 11: rules mean the tag", TagEdgeTests::tidyRules);
    Check.test("promise 11: rules along 15 changes", TagEdgeTests::tidyLongest);
    Check.test("promise 12: there is none", TagEdgeTests::undoNone);
    Check.test("promise 12: undone once", TagEdgeTests::undoTwice);
    Check.test("promise 12: a track was given a tag since", TagEdgeTests::undoBehindTag);
    Check.test("promise 12: a track lost a tag since", TagEdgeTests::undoBehindUntag);
    Check.test("promise 12: given and lost again since", TagEdgeTests::undoBehindBoth);
    Check.test("promise 12: given to a track that was removed", TagEdgeTests::undoBehindRemovedTag);
    Check.test("promise 12: given ahead of the change", TagEdgeTests::undoTagAhead);
    Check.test("promise 12: refused calls since", TagEdgeTests::undoBehindRefused);
    Check.test("promise 12: other calls since", TagEdgeTests::undoBehindOthers);
    Check.test("promise 12: the latest that is not undone", TagEdgeTests::undoEarlier);
    Check.test("promise 12: an earlier one, given a tag since", TagEdgeTests::undoEarlierSpoilt);
    Check.test("promise 12: 15 changes, one behind another", TagEdgeTests::undoLongest);
    Check.test("promise 12: all tracks have their tags again", TagEdgeTests::undoTags);
    Check.test("promise 12: all 24 tracks have their tags again", TagEdgeTests::undoTagsOfAll);
    Check.test("promise 12: removed tracks stay removed", TagEdgeTests::undoRemoved);
    Check.test("promise 12: tracks that were added since", TagEdgeTests::undoAdded);
    Check.test("promise 12: the tag is there again", TagEdgeTests::undoTag);
    Check.test("promise 12: rules mean it again", TagEdgeTests::undoRules);
    Check.test("promise 12: the change can be made again", TagEdgeTests::undoAgain);
    Check.test("promise 32: no such track", TagEdgeTests::tagBitsOfNone);
    Check.test("promise 32: no tag, the last tag, all tags", TagEdgeTests::tagBits);
    Check.test("promise 33: no such tag", TagEdgeTests::nameLengthOfNone);
    Check.test("promise 33: from 0 to 6 letters", TagEdgeTests::nameLength);
    Check.test("promise 34: no such tag", TagEdgeTests::nameAtOfNone);
    Check.test("promise 34: the first and the last index", TagEdgeTests::nameAt);
    Check.test("promise 34: no such index", TagEdgeTests::nameAtNoIndex);
    Check.test("promise 34: no such tag ahead of no such index", TagEdgeTests::nameAtNoneFirst);
    Check.test("promise 35: no such tag", TagEdgeTests::distanceOfNone);
    Check.test("promise 35: from 0 to 6", TagEdgeTests::distance);
    Check.test("promise 36: no such tag", TagEdgeTests::distanceByTryingOfNone);
    Check.test("promise 36: from 0 to 6", TagEdgeTests::distanceByTrying);
    Check.test("promise 37: no such tag", TagEdgeTests::nearestToNone);
    Check.test("promise 37: there is no other one", TagEdgeTests::nearestAlone);
    Check.test("promise 37: the others are gone", TagEdgeTests::nearestLeftAlone);
    Check.test("promise 37: of several, the lowest number", TagEdgeTests::nearestOfSeveral);
    Check.test("promise 37: the least and the greatest distance", TagEdgeTests::nearest);
  }

  private static void stockAlike(Smartcrate x) {
    x.addTrack(100, 1);
    x.addTrack(100, 1);
    for (int tag = 0; tag < 16; tag++) {
      x.addTag();
      x.tag(1, tag);
    }
  }

  // Promises 7 and 8

  private static void tagNumbers() {
    Smartcrate x = new Smartcrate();
    for (int tag = 0; tag < 16; tag++) {
      Check.due(tag, x.addTag());
    }
  }

  private static void mostTags() {
    ALIKE.refused(Scene.STATE, x -> x.addTag());
    Scene.FULL.refused(Scene.STATE, x -> x.addTag());
  }

  private static void mostTagsGone() {
    ALIKE.then(x -> x.tidy(0, 15)).refused(Scene.STATE, x -> x.addTag());
    ALIKE.then(x -> x.tidy(15, 0)).refused(Scene.STATE, x -> x.addTag());
    TIDIED.due(3, x -> x.addTag());
    PAIR.then(x -> x.tidy(1, 0)).due(3, x -> x.addTag());
  }

  private static void emptyName() {
    Scene.SMALL.due(0, x -> x.nameLength(x.addTag()));
    new Scene().due(0, x -> x.nameLength(x.addTag()));
    Scene.SMALL.then(x -> x.addTag()).refused(Scene.INDEX, x -> x.nameAt(3, 0));
  }

  private static void letters() {
    Scene one = new Scene(x -> x.addTag());
    for (char letter = 'a'; letter <= 'z'; letter++) {
      char asked = letter;
      one.due(1, x -> x.letter(0, asked));
      one.then(x -> x.letter(0, asked)).due(asked, x -> x.nameAt(0, 0));
    }
    char[] wrong = {'a' - 1, 'z' + 1, 'A', 'Z', 0, 0xFFFF, 'a' + 256, 'z' + 256, 'm' + 65280};
    for (char letter : wrong) {
      one.refused(Scene.RANGE, x -> x.letter(0, letter));
      Scene.SMALL.refused(Scene.RANGE, x -> x.letter(2, letter));
    }
  }

  private static void mostLetters() {
    NAMED.due(6, x -> x.letter(1, 'z'));
    NAMED.then(x -> x.letter(1, 'z')).due('z', x -> x.nameAt(1, 5));
    NAMED.refused(Scene.STATE, x -> x.letter(0, 'a'));
    NAMED.refused(Scene.STATE, x -> x.letter(4, 'z'));
    NAMED.then(x -> x.letter(1, 'a')).refused(Scene.STATE, x -> x.letter(1, 'a'));
  }

  private static void letterOfNone() {
    Scene.noTag((x, tag) -> x.letter(tag, 'a'));
    Scene.noTag((x, tag) -> x.letter(tag, 'z'));
  }

  private static void letterNoneFirst() {
    NAMED.refused(Scene.NONE, x -> x.letter(5, 'A'));
    NAMED.refused(Scene.NONE, x -> x.letter(-1, '{'));
    TIDIED.refused(Scene.NONE, x -> x.letter(1, '`'));
    Scene.FULL.refused(Scene.NONE, x -> x.letter(16, 'A'));
  }

  private static void letterGoneFirst() {
    Scene gone = NAMED.then(x -> x.tidy(1, 0));
    gone.refused(Scene.NONE, x -> x.letter(0, 'a'));
    gone.refused(Scene.NONE, x -> x.letter(0, 'A'));
  }

  private static void letterRangeFirst() {
    NAMED.refused(Scene.RANGE, x -> x.letter(0, 'A'));
    NAMED.refused(Scene.RANGE, x -> x.letter(4, (char) ('z' + 1)));
  }

  // Promises 9 and 10

  private static void tagNone() {
    Scene.noTrack((x, track) -> x.tag(track, 2));
    Scene.noTag((x, tag) -> x.tag(0, tag));
  }

  private static void tagTwice() {
    ALIKE.refused(Scene.STATE, x -> x.tag(1, 0));
    ALIKE.refused(Scene.STATE, x -> x.tag(1, 15));
    PAIR.refused(Scene.STATE, x -> x.tag(0, 0));
    PAIR.due(2, x -> x.tag(0, 1));
    PAIR.then(x -> x.untag(0, 0)).due(1, x -> x.tag(0, 0));
  }

  private static void tagBehindTidy() {
    TIDIED.refused(Scene.STATE, x -> x.tag(1, 0));
    TIDIED.refused(Scene.STATE, x -> x.tag(2, 0));
    TIDIED.due(1, x -> x.tag(3, 0));
    TIDIED.then(x -> x.undoTidy()).due(2, x -> x.tag(1, 0));
  }

  private static void tagNoneFirst() {
    PAIR.then(x -> x.removeTrack(0)).refused(Scene.NONE, x -> x.tag(0, 0));
    TIDIED.refused(Scene.NONE, x -> x.tag(1, 1));
    TIDIED.refused(Scene.NONE, x -> x.tag(2, 1));
    ALIKE.refused(Scene.NONE, x -> x.tag(1, 16));
    ALIKE.refused(Scene.NONE, x -> x.tag(1, 32));
  }

  private static void tagCounts() {
    Smartcrate x = ALIKE.make();
    for (int tag = 15; tag >= 0; tag--) {
      Check.due(16 - tag, x.tag(0, tag));
    }
  }

  private static void untagNone() {
    Scene.noTrack((x, track) -> x.untag(track, 0));
    Scene.noTag((x, tag) -> x.untag(0, tag));
  }

  private static void untagTwice() {
    ALIKE.refused(Scene.STATE, x -> x.untag(0, 0));
    ALIKE.refused(Scene.STATE, x -> x.untag(0, 15));
    PAIR.refused(Scene.STATE, x -> x.untag(3, 0));
    PAIR.refused(Scene.STATE, x -> x.untag(0, 1));
    PAIR.then(x -> x.untag(0, 0)).refused(Scene.STATE, x -> x.untag(0, 0));
    TIDIED.refused(Scene.STATE, x -> x.untag(3, 0));
    TIDIED.due(0, x -> x.untag(1, 0));
  }

  private static void untagNoneFirst() {
    PAIR.then(x -> x.removeTrack(3)).refused(Scene.NONE, x -> x.untag(3, 0));
    TIDIED.refused(Scene.NONE, x -> x.untag(1, 1));
    TIDIED.refused(Scene.NONE, x -> x.untag(3, 1));
    PAIR.refused(Scene.NONE, x -> x.untag(4, 2));
    PAIR.refused(Scene.NONE, x -> x.untag(3, 3));
  }

  private static void untagCounts() {
    Smartcrate x = ALIKE.make();
    for (int tag = 15; tag >= 0; tag--) {
      Check.due(tag, x.untag(1, tag));
    }
    Check.due(0, x.tagBits(1));
  }

  // Promise 11

  private static void tidyNone() {
    Scene.noTag((x, tag) -> x.tidy(tag, 0));
    Scene.noTag((x, tag) -> x.tidy(0, tag));
  }

  private static void tidyGone() {
    TIDIED.refused(Scene.NONE, x -> x.tidy(0, 1));
    TIDIED.refused(Scene.NONE, x -> x.tidy(1, 0));
    ALIKE.then(x -> x.tidy(0, 15)).refused(Scene.NONE, x -> x.tidy(14, 15));
    ALIKE.then(x -> x.tidy(15, 0)).refused(Scene.NONE, x -> x.tidy(0, 14));
  }

  private static void tidySame() {
    for (int tag : new int[] {0, 7, 15}) {
      ALIKE.refused(Scene.RANGE, x -> x.tidy(tag, tag));
    }
    NAMED.refused(Scene.RANGE, x -> x.tidy(0, 0));
    TIDIED.refused(Scene.RANGE, x -> x.tidy(0, 0));
  }

  private static void tidyNear() {
    dueTidied("", "");
    dueTidied("abcdef", "abcdef");
    dueTidied("", "a");
    dueTidied("abcdef", "abcde");
    dueTidied("abcdef", "bcdef");
    dueTidied("abcdef", "abdef");
    dueTidied("abcdef", "abcdez");
    dueTidied("abcdef", "zbcdef");
    dueTidied("aab", "ab");
  }

  private static void dueTidied(String one, String other) {
    Scene two = two(one, other);
    two.due(0, x -> x.tidy(0, 1));
    two.due(0, x -> x.tidy(1, 0));
  }

  private static Scene two(String one, String other) {
    return new Scene(x -> Scene.name(x, one), x -> Scene.name(x, other));
  }

  private static void tidyFar() {
    dueFar("", "ab");
    dueFar("abcdef", "abcd");
    dueFar("abcdef", "abcdfe");
    dueFar("abcdef", "bcdefa");
    dueFar("ab", "ba");
    dueFar("abc", "xbz");
    dueFar("abcdef", "ghijkl");
    dueFar("", "abcdef");
  }

  private static void dueFar(String one, String other) {
    Scene two = two(one, other);
    two.refused(Scene.UNFIT, x -> x.tidy(0, 1));
    two.refused(Scene.UNFIT, x -> x.tidy(1, 0));
  }

  private static void tidyNoneFirst() {
    for (int tag : new int[] {-1, 3, 16, Scene.LOW, Scene.HIGH}) {
      PAIR.refused(Scene.NONE, x -> x.tidy(tag, tag));
    }
    TIDIED.refused(Scene.NONE, x -> x.tidy(1, 1));
  }

  private static void tidyNoneAheadOfFar() {
    TIDIED.refused(Scene.NONE, x -> x.tidy(2, 1));
    TIDIED.refused(Scene.NONE, x -> x.tidy(1, 2));
  }

  private static void tidyCounts() {
    PAIR.due(2, x -> x.tidy(0, 1));
    PAIR.due(2, x -> x.tidy(1, 0));
    Scene all =
        ALIKE.then(
            x -> {
              for (int track = 2; track < 24; track++) {
                x.addTrack(1, 0);
                x.tag(track, 15);
              }
              x.untag(1, 3);
              x.tag(0, 15);
            });
    all.due(24, x -> x.tidy(0, 15));
    all.due(0, x -> x.tidy(0, 3));
    all.due(1, x -> x.tidy(3, 0));
    new Scene(x -> x.addTag(), x -> x.addTag()).due(0, x -> x.tidy(0, 1));
  }

  private static void tidyCountsRemoved() {
    PAIR.then(x -> x.removeTrack(1)).due(1, x -> x.tidy(0, 1));
    PAIR.then(x -> x.removeTrack(1)).then(x -> x.removeTrack(2)).due(0, x -> x.tidy(0, 1));
  }

  private static void tidyBoth() {
    TIDIED.due(1, x -> x.tagBits(2));
    PAIR.then(x -> x.tidy(1, 0)).due(2, x -> x.tagBits(2));
    TIDIED.due(1, x -> x.tagBits(0));
    TIDIED.due(1, x -> x.tagBits(1));
    TIDIED.due(0, x -> x.tagBits(3));
  }

  private static void tidyGoneEverywhere() {
    TIDIED.refused(Scene.NONE, x -> x.hasTag(1));
    TIDIED.refused(Scene.NONE, x -> x.nameLength(1));
    TIDIED.refused(Scene.NONE, x -> x.nearest(1));
    TIDIED.refused(Scene.NONE, x -> x.distance(0, 1));
    TIDIED.refused(Scene.NONE, x -> x.letter(1, 'a'));
    TIDIED.due(2, x -> x.nearest(0));
  }

  private static void tidyRules() {
    for (int track = 0; track < 3; track++) {
      int asked = track;
      TIDIED.due(true, x -> x.holds(0, asked));
      TIDIED.due(true, x -> x.holds(1, asked));
    }
    TIDIED.due(false, x -> x.holds(1, 3));
    TIDIED.due(3, x -> x.size(0));
    TIDIED.due(3, x -> x.size(1));
    TIDIED.due(2, x -> x.touched());
    // What is given later counts for the rules of both tags, too.
    TIDIED.then(x -> x.tag(3, 0)).due(true, x -> x.holds(1, 3));
    TIDIED.then(x -> x.untag(0, 0)).due(false, x -> x.holds(1, 0));
  }

  /** The tag 0 becomes 1, that becomes 2, and so on: all rules mean the tag 15. */
  private static Scene longest() {
    Scene ruled = ALIKE.then(x -> x.addTrack(1, 0));
    Scene tagged = ruled.then(x -> x.tag(2, 0));
    return tagged.then(
        x -> {
          for (int tag = 0; tag < 16; tag++) {
            x.hasTag(tag);
          }
          for (int tag = 0; tag < 15; tag++) {
            x.tidy(tag + 1, tag);
          }
        });
  }

  private static void tidyLongest() {
    Scene longest = longest();
    for (int rule = 0; rule < 16; rule++) {
      int asked = rule;
      longest.due(true, x -> x.holds(asked, 1));
      longest.due(true, x -> x.holds(asked, 2));
      longest.due(false, x -> x.holds(asked, 0));
    }
    longest.due(32768, x -> x.tagBits(1));
    longest.due(32768, x -> x.tagBits(2));
  }

  // Promise 12

  private static void undoNone() {
    new Scene().refused(Scene.STATE, x -> x.undoTidy());
    PAIR.refused(Scene.STATE, x -> x.undoTidy());
    ALIKE.refused(Scene.STATE, x -> x.undoTidy());
  }

  private static void undoTwice() {
    TIDIED.due(1, x -> x.undoTidy());
    TIDIED.then(x -> x.undoTidy()).refused(Scene.STATE, x -> x.undoTidy());
    Scene.FULL.refused(Scene.STATE, x -> x.undoTidy());
  }

  private static void undoBehindTag() {
    TIDIED.then(x -> x.tag(3, 0)).refused(Scene.STATE, x -> x.undoTidy());
    TIDIED.then(x -> x.tag(3, 2)).refused(Scene.STATE, x -> x.undoTidy());
  }

  private static void undoBehindUntag() {
    TIDIED.then(x -> x.untag(0, 0)).refused(Scene.STATE, x -> x.undoTidy());
    Scene jazz = PAIR.then(x -> x.tag(3, 2)).then(x -> x.tidy(0, 1));
    jazz.due(1, x -> x.undoTidy());
    jazz.then(x -> x.untag(3, 2)).refused(Scene.STATE, x -> x.undoTidy());
  }

  private static void undoBehindBoth() {
    Scene back = TIDIED.then(x -> x.tag(3, 2)).then(x -> x.untag(3, 2));
    back.refused(Scene.STATE, x -> x.undoTidy());
    Scene forth = TIDIED.then(x -> x.untag(0, 0)).then(x -> x.tag(0, 0));
    forth.refused(Scene.STATE, x -> x.undoTidy());
  }

  private static void undoBehindRemovedTag() {
    Scene gone = TIDIED.then(x -> x.tag(3, 2)).then(x -> x.removeTrack(3));
    gone.refused(Scene.STATE, x -> x.undoTidy());
  }

  private static void undoTagAhead() {
    Scene ahead = PAIR.then(x -> x.tag(3, 1)).then(x -> x.untag(0, 0)).then(x -> x.tidy(0, 1));
    ahead.due(1, x -> x.undoTidy());
    ahead.then(x -> x.undoTidy()).due(2, x -> x.tagBits(3));
    ahead.then(x -> x.undoTidy()).due(0, x -> x.tagBits(0));
  }

  private static void undoBehindRefused() {
    Scene.Call[] calls = {
      x -> x.tag(0, 0), x -> x.untag(3, 0), x -> x.tag(0, 1), x -> x.untag(1, 1),
      x -> x.tag(9, 0), x -> x.untag(9, 0), x -> x.tidy(0, 2), x -> x.tidy(0, 0),
    };
    for (Scene.Call call : calls) {
      Smartcrate x = TIDIED.make();
      try {
        Check.fail("answered " + call.on(x));
      } catch (RuntimeException e) {
        Check.due(1, x.undoTidy());
      }
    }
  }

  private static void undoBehindOthers() {
    Scene.Steps[] steps = {
      x -> x.addTrack(1, 0), x -> x.removeTrack(0), x -> x.setRating(0, 5), x -> x.play(0),
      x -> x.pass(365), x -> x.addTag(), x -> x.letter(0, 'z'), x -> x.hasTag(0),
      x -> x.rated(0), x -> x.inList(0), x -> x.both(0, 1), x -> x.not(0),
      x -> x.addList(0, 's', 0), x -> x.setRule(0, 1), x -> x.setOrder(0, 's'),
      x -> x.setLimit(0, 1),
    };
    for (Scene.Steps step : steps) {
      TIDIED.then(step).due(1, x -> x.undoTidy());
    }
  }

  private static void undoEarlier() {
    Scene twice = TIDIED.then(x -> x.addTag()).then(x -> x.addTag()).then(x -> x.tidy(3, 4));
    twice.due(4, x -> x.undoTidy());
    twice.then(x -> x.undoTidy()).due(1, x -> x.undoTidy());
    Scene again = twice.then(x -> x.undoTidy()).then(x -> x.tidy(4, 3));
    again.due(3, x -> x.undoTidy());
    again.then(x -> x.undoTidy()).due(1, x -> x.undoTidy());
  }

  private static void undoEarlierSpoilt() {
    Scene between = TIDIED.then(x -> x.tag(3, 2)).then(x -> x.letter(0, 's'));
    Scene later = between.then(x -> Scene.name(x, "rock")).then(x -> x.tidy(0, 3));
    later.due(3, x -> x.undoTidy());
    later.then(x -> x.undoTidy()).refused(Scene.STATE, x -> x.undoTidy());
    later.then(x -> x.untag(3, 2)).refused(Scene.STATE, x -> x.undoTidy());
  }

  private static void undoLongest() {
    Smartcrate x = longest().make();
    for (int tag = 14; tag >= 0; tag--) {
      Check.due(tag, x.undoTidy());
      Check.due(65536 - (1 << tag), x.tagBits(1));
      Check.due(1 << tag, x.tagBits(2));
      Check.due(true, x.holds(tag, 2));
      Check.due(false, x.holds(tag + 1, 2));
    }
    Check.refused(x, Scene.STATE, () -> x.undoTidy());
  }

  private static void undoTags() {
    Scene undone = TIDIED.then(x -> x.undoTidy());
    undone.due(1, x -> x.tagBits(0));
    undone.due(2, x -> x.tagBits(1));
    undone.due(3, x -> x.tagBits(2));
    undone.due(0, x -> x.tagBits(3));
  }

  private static void undoTagsOfAll() {
    Smartcrate x = PAIR.make();
    for (int track = 4; track < 24; track++) {
      x.addTrack(100, 1);
      x.tag(track, 1);
    }
    Check.due(22, x.tidy(0, 1));
    for (int track = 4; track < 24; track++) {
      Check.due(1, x.tagBits(track));
    }
    Check.due(1, x.undoTidy());
    for (int track = 4; track < 24; track++) {
      Check.due(2, x.tagBits(track));
    }
  }

  private static void undoRemoved() {
    for (int track = 0; track < 4; track++) {
      int gone = track;
      Scene undone = TIDIED.then(x -> x.removeTrack(gone)).then(x -> x.undoTidy());
      undone.due(3, x -> x.tracks());
      undone.refused(Scene.NONE, x -> x.tagBits(gone));
      undone.due(gone == 1 || gone == 2 ? 1 : 2, x -> x.size(1));
    }
  }

  private static void undoAdded() {
    Scene undone = TIDIED.then(x -> x.addTrack(1, 0)).then(x -> x.undoTidy());
    undone.due(0, x -> x.tagBits(4));
    undone.due(5, x -> x.tracks());
  }

  private static void undoTag() {
    Scene undone = TIDIED.then(x -> x.letter(0, 's')).then(x -> x.undoTidy());
    undone.due(3, x -> x.nameLength(1));
    undone.due('k', x -> x.nameAt(1, 2));
    undone.due(5, x -> x.nameLength(0));
    undone.due(2, x -> x.distance(0, 1));
    undone.due(1, x -> x.nearest(0));
    undone.due(1, x -> x.tag(3, 1));
    undone.due(0, x -> x.untag(1, 1));
    undone.due(2, x -> x.hasTag(1));
    undone.due(4, x -> x.letter(1, 's'));
  }

  private static void undoRules() {
    Scene undone = TIDIED.then(x -> x.hasTag(0)).then(x -> x.undoTidy());
    for (int rule : new int[] {0, 1, 2}) {
      undone.due(rule != 1, x -> x.holds(rule, 0));
      undone.due(rule == 1, x -> x.holds(rule, 1));
      undone.due(true, x -> x.holds(rule, 2));
      undone.due(false, x -> x.holds(rule, 3));
    }
    undone.due(2, x -> x.touched());
    undone.due(2, x -> x.trackAt(1, 0));
    undone.due(1, x -> x.trackAt(1, 1));
    undone.due(2, x -> x.size(1));
  }

  private static void undoAgain() {
    Scene undone = TIDIED.then(x -> x.undoTidy());
    undone.due(2, x -> x.tidy(0, 1));
    Scene turned = undone.then(x -> x.tidy(1, 0));
    turned.due(2, x -> x.tagBits(0));
    turned.due(0, x -> x.undoTidy());
    turned.then(x -> x.undoTidy()).due(1, x -> x.tagBits(0));
    turned.then(x -> x.undoTidy()).refused(Scene.STATE, x -> x.undoTidy());
  }

  // Promises 32 to 37

  private static void tagBitsOfNone() {
    Scene.noTrack((x, track) -> x.tagBits(track));
  }

  private static void tagBits() {
    ALIKE.due(0, x -> x.tagBits(0));
    ALIKE.due(65535, x -> x.tagBits(1));
    for (int tag = 0; tag < 16; tag++) {
      int asked = tag;
      ALIKE.then(x -> x.tag(0, asked)).due(1 << tag, x -> x.tagBits(0));
    }
  }

  private static void nameLengthOfNone() {
    Scene.noTag((x, tag) -> x.nameLength(tag));
  }

  private static void nameLength() {
    for (int letters = 0; letters <= 6; letters++) {
      String name = SIXTEEN.substring(0, letters);
      new Scene(x -> Scene.name(x, name)).due(letters, x -> x.nameLength(0));
    }
  }

  private static void nameAtOfNone() {
    Scene.noTag((x, tag) -> x.nameAt(tag, 0));
  }

  private static void nameAt() {
    for (int index = 0; index < 6; index++) {
      int asked = index;
      NAMED.due(SIXTEEN.charAt(index), x -> x.nameAt(0, asked));
    }
    NAMED.due('e', x -> x.nameAt(1, 4));
    NAMED.due('z', x -> x.nameAt(2, 0));
  }

  private static void nameAtNoIndex() {
    for (int index : new int[] {-1, 6, 7, Scene.LOW, Scene.HIGH}) {
      NAMED.refused(Scene.INDEX, x -> x.nameAt(0, index));
    }
    NAMED.refused(Scene.INDEX, x -> x.nameAt(1, 5));
    NAMED.refused(Scene.INDEX, x -> x.nameAt(2, 1));
    NAMED.refused(Scene.INDEX, x -> x.nameAt(3, 0));
    NAMED.refused(Scene.INDEX, x -> x.nameAt(3, -1));
  }

  private static void nameAtNoneFirst() {
    for (int index : new int[] {-1, 0, 6, Scene.LOW, Scene.HIGH}) {
      NAMED.refused(Scene.NONE, x -> x.nameAt(5, index));
      NAMED.refused(Scene.NONE, x -> x.nameAt(-1, index));
      TIDIED.refused(Scene.NONE, x -> x.nameAt(1, index));
    }
  }

  private static void distanceOfNone() {
    Scene.noTag((x, tag) -> x.distance(tag, 0));
    Scene.noTag((x, tag) -> x.distance(0, tag));
    Scene.noTag((x, tag) -> x.distance(tag, tag));
  }

  private static void distance() {
    dueDistances((x, pair) -> x.distance(pair / 5, pair % 5));
  }

  private static void distanceByTryingOfNone() {
    Scene.noTag((x, tag) -> x.distanceByTrying(tag, 0));
    Scene.noTag((x, tag) -> x.distanceByTrying(0, tag));
    Scene.noTag((x, tag) -> x.distanceByTrying(tag, tag));
  }

  private static void distanceByTrying() {
    dueDistances((x, pair) -> x.distanceByTrying(pair / 5, pair % 5));
  }

  /** The names are abcdef, abcde, z, nothing and ghijkl. */
  private static void dueDistances(Scene.Numbered call) {
    int[][] due = {
      {0, 1, 6, 6, 6}, {1, 0, 5, 5, 6}, {6, 5, 0, 1, 6}, {6, 5, 1, 0, 6}, {6, 6, 6, 6, 0},
    };
    for (int pair = 0; pair < 25; pair++) {
      int asked = pair;
      NAMED.due(due[pair / 5][pair % 5], x -> call.on(x, asked));
    }
  }

  private static void nearestToNone() {
    Scene.noTag((x, tag) -> x.nearest(tag));
  }

  private static void nearestAlone() {
    Scene alone = new Scene(x -> x.addTag());
    alone.refused(Scene.STATE, x -> x.nearest(0));
    alone.refused(Scene.NONE, x -> x.nearest(1));
    alone.then(x -> x.addTag()).due(1, x -> x.nearest(0));
  }

  private static void nearestLeftAlone() {
    for (int left : new int[] {0, 7, 15}) {
      Scene alone =
          ALIKE.then(
              x -> {
                for (int tag = 0; tag < 16; tag++) {
                  if (tag != left) {
                    x.tidy(left, tag);
                  }
                }
              });
      alone.refused(Scene.STATE, x -> x.nearest(left));
      alone.refused(Scene.NONE, x -> x.nearest(left == 0 ? 1 : 0));
      alone.then(x -> x.undoTidy()).due(left == 15 ? 14 : 15, x -> x.nearest(left));
    }
  }

  private static void nearestOfSeveral() {
    ALIKE.due(1, x -> x.nearest(0));
    for (int tag = 1; tag < 16; tag++) {
      int asked = tag;
      ALIKE.due(0, x -> x.nearest(asked));
    }
    Scene gone = ALIKE.then(x -> x.tidy(15, 0));
    gone.due(1, x -> x.nearest(15));
    gone.due(2, x -> x.nearest(1));
  }

  private static void nearest() {
    NAMED.due(1, x -> x.nearest(0));
    NAMED.due(0, x -> x.nearest(1));
    NAMED.due(3, x -> x.nearest(2));
    NAMED.due(2, x -> x.nearest(3));
    // All others are six letters away.
    NAMED.due(0, x -> x.nearest(4));
    two("aaaaaa", "bbbbbb").due(1, x -> x.nearest(0));
    two("aaaaaa", "bbbbbb").due(0, x -> x.nearest(1));
  }
}
