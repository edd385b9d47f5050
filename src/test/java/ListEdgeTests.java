import java.util.ArrayList;
import java.util.Arrays;
import java.util.List;

/** Edges in promises 22 to 25 and 40 to 47: each sentence that names one has its own test. */
final class ListEdgeTests {
  private static final int EVERY = 0;
  private static final int NONE_OF_THEM = 1;

  /** 24 tracks of 999 s, a rule for all of them, and one for none. */
  private static final Scene LONG =
      new Scene(
          x -> {
            for (int track = 0; track < 24; track++) {
              x.addTrack(999, track % 6);
            }
            x.not(x.rated(0));
          });

  /** The list 0 holds all 24 tracks, the list 1 holds none. */
  private static final Scene ALL_AND_NONE =
      LONG.then(x -> x.addList(EVERY, 's', 0)).then(x -> x.addList(NONE_OF_THEM, 's', 0));

  /** Tracks of 100 s, 60 s, 40 s, 60 s and 10 s, all in the list 0, the shortest ones first. */
  private static final Scene FIVE =
      new Scene(
          x -> {
            x.addTrack(100, 5);
            x.addTrack(60, 2);
            x.addTrack(40, 5);
            x.addTrack(60, 2);
            x.addTrack(10, 0);
            x.not(x.rated(0));
            x.addList(EVERY, 's', 0);
          });

  /** Eight lists, each of which asks for the one ahead of it, but for the first one. */
  private static final Scene FORWARD =
      new Scene(
          x -> {
            x.addTrack(100, 3);
            x.addTrack(200, 1);
            x.rated(2);
            x.addList(0, 's', 0);
            for (int list = 1; list < 8; list++) {
              x.addList(x.not(x.inList(list - 1)), 's', 0);
            }
          });

  /** Eight lists, each of which asks for the one behind it, but for the last one. */
  private static final Scene BACKWARD =
      new Scene(
          x -> {
            x.addTrack(100, 3);
            x.addTrack(200, 1);
            x.rated(2);
            for (int list = 0; list < 8; list++) {
              x.addList(0, 's', 0);
            }
            for (int list = 0; list < 7; list++) {
              x.setRule(list, x.not(x.inList(list + 1)));
            }
          });

  private ListEdgeTests() {}

  static void run() {
    Check.test("promise 22: lists have numbers from 0", ListEdgeTests::listNumbers);
    Check.test("promise 22: no such rule", ListEdgeTests::addListOfNone);
    Check.test("promise 22: the four orders and no others", ListEdgeTests::addListOrders);
    Check.test("promise 22: a limit from 0 to 9999", ListEdgeTests::addListLimits);
    Check.test("promise 22: at most 8 lists", ListEdgeTests::mostLists);
    Check.test("promise 22: no such rule comes first", ListEdgeTests::addListNoneFirst);
    Check.test("promise 22: a range ahead of 8 lists", ListEdgeTests::addListRangeFirst);
    Check.test("promise 22: a list is filled as it is added", ListEdgeTests::addListFills);
    Check.test("promise 23: no such list", ListEdgeTests::setRuleOfNoList);
    Check.test("promise 23: no such rule", ListEdgeTests::setRuleToNone);
    Check.test("promise 23: the list would ask for itself", ListEdgeTests::setRuleToItself);
    Check.test("promise 23: for one that depends on it", ListEdgeTests::setRuleToDependent);
    Check.test("promise 23: along eight lists", ListEdgeTests::setRuleAlongEight);
    Check.test("promise 23: none ahead of a circle", ListEdgeTests::setRuleNoneFirst);
    Check.test("promise 23: two ways to one list are no circle", ListEdgeTests::setRuleTwoWays);
    Check.test("promise 23: what asked once is no circle", ListEdgeTests::setRuleNoLonger);
    Check.test("promise 23: the rule before", ListEdgeTests::ruleBefore);
    Check.test("promise 24: no such list", ListEdgeTests::setOrderOfNone);
    Check.test("promise 24: the four orders and no others", ListEdgeTests::setOrders);
    Check.test("promise 24: no such list ahead of a range", ListEdgeTests::setOrderNoneFirst);
    Check.test("promise 24: the order before", ListEdgeTests::orderBefore);
    Check.test("promise 24: of equal ones, the lowest number", ListEdgeTests::equalOnes);
    Check.test("promise 25: no such list", ListEdgeTests::setLimitOfNone);
    Check.test("promise 25: a limit from 0 to 9999", ListEdgeTests::setLimits);
    Check.test("promise 25: no such list ahead of a range", ListEdgeTests::setLimitNoneFirst);
    Check.test("promise 25: the limit before", ListEdgeTests::limitBefore);
    Check.test("promise 25: 0 means that there is none", ListEdgeTests::noLimit);
    Check.test("promise 25: not more than the limit", ListEdgeTests::exactLimit);
    Check.test("promise 25: the greatest limit", ListEdgeTests::greatestLimit);
    Check.test("promise 25: the least limit", ListEdgeTests::leastLimit);
    Check.test("promise 25: the next ones are looked at", ListEdgeTests::nextOnes);
    Check.test("promise 40: no such list", ListEdgeTests::matchesOfNone);
    Check.test("promise 40: none, all, and those left out", ListEdgeTests::matches);
    Check.test("promise 40: lists that ask for lists", ListEdgeTests::matchesAlong);
    Check.test("promise 41: no such list", ListEdgeTests::sizeOfNoList);
    Check.test("promise 41: none and all", ListEdgeTests::size);
    Check.test("promise 42: no such list", ListEdgeTests::trackAtOfNone);
    Check.test("promise 42: the first and the last rank", ListEdgeTests::trackAt);
    Check.test("promise 42: no such rank", ListEdgeTests::trackAtNoRank);
    Check.test("promise 42: no such list ahead of no such rank", ListEdgeTests::trackAtNoneFirst);
    Check.test("promise 43: no such list", ListEdgeTests::containsOfNoList);
    Check.test("promise 43: no such track", ListEdgeTests::containsOfNoTrack);
    Check.test("promise 43: the first and the last track", ListEdgeTests::contains);
    Check.test("promise 44: no such list", ListEdgeTests::roundsOfNoList);
    Check.test("promise 44: no such track", ListEdgeTests::roundsOfNoTrack);
    Check.test("promise 44: the first and the last track", ListEdgeTests::containsByRounds);
    Check.test("promises 43 and 44: eight lists, forward", ListEdgeTests::chainForward);
    Check.test("promises 43 and 44: eight lists, backward", ListEdgeTests::chainBackward);
    Check.test("promise 45: no such list", ListEdgeTests::secondsOfNone);
    Check.test("promise 45: no tracks and the greatest sum", ListEdgeTests::secondsOf);
    Check.test("promise 46: no such list", ListEdgeTests::commonOfNone);
    Check.test("promise 46: none, all, and the same list", ListEdgeTests::common);
    Check.test("promise 47: no such list", ListEdgeTests::dependsOnNone);
    Check.test("promise 47: false for the same one", ListEdgeTests::dependsOnItself);
    Check.test("promise 47: on the next one", ListEdgeTests::dependsOnNext);
    Check.test("promise 47: along eight lists", ListEdgeTests::dependsAlongEight);
    Check.test("promise 47: a part of the rule asks", ListEdgeTests::dependsByPart);
    Check.test("promise 47: a rule that no list has", ListEdgeTests::dependsByNoRule);
  }

  private static void dueTracks(Scene scene, int list, Integer... tracks) {
    Smartcrate x = scene.make();
    List<Integer> got = new ArrayList<>();
    for (int rank = 0; rank < x.size(list); rank++) {
      got.add(x.trackAt(list, rank));
    }
    Check.due(Arrays.asList(tracks), got);
  }

  private static boolean isOrder(int order) {
    return order == 's' || order == 'r' || order == 'p' || order == 'n';
  }

  /** Every other character is refused; behind the nearest ones nothing is changed. */
  private static void dueOrders(Scene scene, Scene.Numbered call) {
    Smartcrate x = scene.make();
    for (int order = 0; order <= 0xFFFF; order++) {
      int asked = order;
      if (!isOrder(order)) {
        Check.thrown(Scene.RANGE, () -> call.on(x, asked));
      }
    }
    for (char order : "mortqSRPN\0 ".toCharArray()) {
      if (!isOrder(order)) {
        scene.refused(Scene.RANGE, y -> call.on(y, order));
      }
    }
    for (char order : "srpn".toCharArray()) {
      scene.allowed(y -> call.on(y, order));
      scene.refused(Scene.RANGE, y -> call.on(y, order + 256));
      scene.refused(Scene.RANGE, y -> call.on(y, order - 32));
    }
  }

  // Promise 22

  private static void listNumbers() {
    Smartcrate x = LONG.make();
    for (int list = 0; list < 8; list++) {
      Check.due(list, x.addList(list % 2, "srpn".charAt(list % 4), list));
    }
  }

  private static void addListOfNone() {
    Scene.noRule((x, rule) -> x.addList(rule, 's', 0));
  }

  private static void addListOrders() {
    dueOrders(Scene.SMALL, (x, order) -> x.addList(0, (char) order, 0));
  }

  private static void addListLimits() {
    Scene.SMALL.range(0, 9999, (x, limit) -> x.addList(0, 'p', limit));
  }

  private static void mostLists() {
    Scene seven = LONG.then(x -> addLists(x, 7));
    seven.due(7, x -> x.addList(0, 's', 0));
    seven.then(x -> x.addList(0, 's', 0)).refused(Scene.STATE, x -> x.addList(0, 's', 0));
    Scene.FULL.refused(Scene.STATE, x -> x.addList(39, 'n', 9999));
  }

  private static void addLists(Smartcrate x, int count) {
    for (int list = 0; list < count; list++) {
      x.addList(EVERY, 's', 0);
    }
  }

  private static void addListNoneFirst() {
    for (int rule : new int[] {-1, 40, Scene.LOW, Scene.HIGH}) {
      Scene.FULL.refused(Scene.NONE, x -> x.addList(rule, 's', 0));
      Scene.FULL.refused(Scene.NONE, x -> x.addList(rule, 'x', 0));
      Scene.FULL.refused(Scene.NONE, x -> x.addList(rule, 's', 10000));
      Scene.SMALL.refused(Scene.NONE, x -> x.addList(rule, 'x', -1));
    }
    Scene.SMALL.refused(Scene.NONE, x -> x.addList(5, 'x', 0));
  }

  private static void addListRangeFirst() {
    Scene.FULL.refused(Scene.RANGE, x -> x.addList(0, 'x', 0));
    Scene.FULL.refused(Scene.RANGE, x -> x.addList(0, 's', -1));
    Scene.FULL.refused(Scene.RANGE, x -> x.addList(0, 's', 10000));
    Scene.FULL.refused(Scene.RANGE, x -> x.addList(39, 'S', 10000));
  }

  private static void addListFills() {
    LONG.then(x -> x.addList(EVERY, 's', 0)).due(24, x -> x.size(0));
    LONG.then(x -> x.addList(EVERY, 's', 9999)).due(10, x -> x.size(0));
    LONG.then(x -> x.addList(EVERY, 's', 998)).due(0, x -> x.size(0));
    LONG.then(x -> x.addList(EVERY, 'r', 999)).due(5, x -> x.trackAt(0, 0));
    LONG.then(x -> x.addList(EVERY, 'n', 999)).due(23, x -> x.trackAt(0, 0));
    LONG.then(x -> x.addList(EVERY, 'p', 999)).due(0, x -> x.trackAt(0, 0));
    LONG.then(x -> x.addList(NONE_OF_THEM, 's', 0)).due(0, x -> x.size(0));
    new Scene(x -> x.addList(x.rated(0), 's', 0)).due(0, x -> x.size(0));
  }

  // Promise 23

  private static void setRuleOfNoList() {
    Scene.noList((x, list) -> x.setRule(list, 0));
  }

  private static void setRuleToNone() {
    Scene.noRule((x, rule) -> x.setRule(1, rule));
  }

  private static void setRuleToItself() {
    Scene asking = FIVE.then(x -> x.inList(0));
    asking.refused(Scene.UNFIT, x -> x.setRule(0, 2));
    asking.then(x -> x.not(2)).refused(Scene.UNFIT, x -> x.setRule(0, 3));
    asking.then(x -> x.both(0, 2)).refused(Scene.UNFIT, x -> x.setRule(0, 3));
    asking.then(x -> x.both(2, 0)).refused(Scene.UNFIT, x -> x.setRule(0, 3));
    asking.then(x -> x.either(1, 2)).refused(Scene.UNFIT, x -> x.setRule(0, 3));
    asking.then(x -> x.either(2, 1)).refused(Scene.UNFIT, x -> x.setRule(0, 3));
    Scene deep = asking.then(x -> x.both(x.not(x.either(2, 0)), 1));
    deep.refused(Scene.UNFIT, x -> x.setRule(0, 5));
    asking.then(x -> x.addList(2, 's', 0)).due(2, x -> x.setRule(1, 0));
  }

  private static void setRuleToDependent() {
    Scene asking = FIVE.then(x -> x.inList(0)).then(x -> x.addList(2, 's', 0));
    Scene back = asking.then(x -> x.inList(1));
    back.refused(Scene.UNFIT, x -> x.setRule(0, 3));
    back.then(x -> x.not(3)).refused(Scene.UNFIT, x -> x.setRule(0, 4));
    back.refused(Scene.UNFIT, x -> x.setRule(1, 3));
    back.then(x -> x.addList(0, 's', 0)).due(0, x -> x.setRule(2, 3));
  }

  private static void setRuleAlongEight() {
    Scene last = FORWARD.then(x -> x.inList(7));
    for (int list = 0; list < 8; list++) {
      int asked = list;
      last.refused(Scene.UNFIT, x -> x.setRule(asked, 15));
    }
    Scene first = BACKWARD.then(x -> x.inList(0));
    for (int list = 0; list < 8; list++) {
      int asked = list;
      first.refused(Scene.UNFIT, x -> x.setRule(asked, 15));
    }
  }

  private static void setRuleNoneFirst() {
    Scene last = FORWARD.then(x -> x.inList(7));
    for (int number : new int[] {-1, 8, 16, 32, Scene.LOW, Scene.HIGH}) {
      last.refused(Scene.NONE, x -> x.setRule(number, 15));
      last.refused(Scene.NONE, x -> x.setRule(number, 40));
    }
    last.refused(Scene.NONE, x -> x.setRule(0, 16));
    last.refused(Scene.NONE, x -> x.setRule(7, -1));
  }

  private static void setRuleTwoWays() {
    Scene two =
        FIVE.then(
            x -> {
              int zero = x.inList(0);
              x.addList(zero, 'r', 0);
              x.addList(x.not(zero), 'n', 0);
              x.addList(EVERY, 'p', 0);
              x.both(x.inList(1), x.either(x.inList(2), zero));
            });
    two.due(EVERY, x -> x.setRule(3, 7));
    Scene set = two.then(x -> x.setRule(3, 7));
    set.due(5, x -> x.size(3));
    set.due(7, x -> x.setRule(3, 7));
  }

  private static void setRuleNoLonger() {
    Scene asking = FIVE.then(x -> x.inList(0)).then(x -> x.addList(2, 's', 0));
    Scene turned = asking.then(x -> x.setRule(1, NONE_OF_THEM)).then(x -> x.inList(1));
    turned.due(EVERY, x -> x.setRule(0, 3));
    turned.then(x -> x.setRule(0, 3)).due(0, x -> x.size(0));
    turned.then(x -> x.setRule(0, 3)).refused(Scene.UNFIT, x -> x.setRule(1, 2));
  }

  private static void ruleBefore() {
    Scene.FULL.due(14, x -> x.setRule(7, 39));
    Scene.FULL.then(x -> x.setRule(7, 39)).due(39, x -> x.setRule(7, 0));
    Scene.FULL.due(0, x -> x.setRule(0, 0));
  }

  // Promise 24

  private static void setOrderOfNone() {
    Scene.noList((x, list) -> x.setOrder(list, 's'));
  }

  private static void setOrders() {
    dueOrders(Scene.SMALL, (x, order) -> x.setOrder(1, (char) order));
  }

  private static void setOrderNoneFirst() {
    for (int list : new int[] {-1, 8, 32, Scene.LOW, Scene.HIGH}) {
      Scene.FULL.refused(Scene.NONE, x -> x.setOrder(list, 'x'));
      Scene.FULL.refused(Scene.NONE, x -> x.setOrder(list, (char) 0));
    }
    Scene.SMALL.refused(Scene.NONE, x -> x.setOrder(2, 'S'));
  }

  private static void orderBefore() {
    Smartcrate x = FIVE.make();
    Check.due('s', x.setOrder(0, 's'));
    Check.due('s', x.setOrder(0, 'r'));
    Check.due('r', x.setOrder(0, 'p'));
    Check.due('p', x.setOrder(0, 'n'));
    Check.due('n', x.setOrder(0, 's'));
    Scene.FULL.due('n', y -> y.setOrder(7, 's'));
  }

  private static void equalOnes() {
    dueTracks(FIVE, 0, 4, 2, 1, 3, 0);
    dueTracks(FIVE.then(x -> x.setOrder(0, 'r')), 0, 0, 2, 1, 3, 4);
    dueTracks(FIVE.then(x -> x.setOrder(0, 'p')), 0, 0, 1, 2, 3, 4);
    dueTracks(FIVE.then(x -> x.setOrder(0, 'n')), 0, 4, 3, 2, 1, 0);
    Scene played = FIVE.then(x -> x.setOrder(0, 'p')).then(x -> x.play(1)).then(x -> x.play(0));
    dueTracks(played, 0, 2, 3, 4, 0, 1);
    // Among equal ones the lowest number is taken, and there is no room for the other one.
    dueTracks(FIVE.then(x -> x.setLimit(0, 110)), 0, 4, 2, 1);
    dueTracks(FIVE.then(x -> x.setOrder(0, 'r')).then(x -> x.setLimit(0, 99)), 0, 2, 4);
  }

  // Promise 25

  private static void setLimitOfNone() {
    Scene.noList((x, list) -> x.setLimit(list, 0));
    Scene.noList((x, list) -> x.setLimit(list, 9999));
  }

  private static void setLimits() {
    Scene.SMALL.range(0, 9999, (x, limit) -> x.setLimit(1, limit));
    Scene.FULL.range(0, 9999, (x, limit) -> x.setLimit(7, limit));
  }

  private static void setLimitNoneFirst() {
    for (int list : new int[] {-1, 8, 32, Scene.LOW, Scene.HIGH}) {
      Scene.FULL.refused(Scene.NONE, x -> x.setLimit(list, -1));
      Scene.FULL.refused(Scene.NONE, x -> x.setLimit(list, 10000));
    }
    Scene.SMALL.refused(Scene.NONE, x -> x.setLimit(2, 10000));
  }

  private static void limitBefore() {
    Smartcrate x = FIVE.make();
    Check.due(0, x.setLimit(0, 9999));
    Check.due(9999, x.setLimit(0, 9999));
    Check.due(9999, x.setLimit(0, 1));
    Check.due(1, x.setLimit(0, 0));
    Scene.FULL.due(4200, y -> y.setLimit(7, 0));
  }

  private static void noLimit() {
    ALL_AND_NONE.due(24, x -> x.size(0));
    Scene back = ALL_AND_NONE.then(x -> x.setLimit(0, 1)).then(x -> x.setLimit(0, 0));
    back.due(24, x -> x.size(0));
    back.due(23976, x -> x.secondsOf(0));
  }

  private static void exactLimit() {
    dueTracks(FIVE.then(x -> x.setLimit(0, 269)), 0, 4, 2, 1, 3);
    dueTracks(FIVE.then(x -> x.setLimit(0, 270)), 0, 4, 2, 1, 3, 0);
    dueTracks(FIVE.then(x -> x.setLimit(0, 271)), 0, 4, 2, 1, 3, 0);
    dueTracks(FIVE.then(x -> x.setLimit(0, 49)), 0, 4);
    dueTracks(FIVE.then(x -> x.setLimit(0, 50)), 0, 4, 2);
    dueTracks(FIVE.then(x -> x.setLimit(0, 10)), 0, 4);
    dueTracks(FIVE.then(x -> x.setLimit(0, 9)), 0);
  }

  private static void greatestLimit() {
    Scene greatest = ALL_AND_NONE.then(x -> x.setLimit(0, 9999));
    greatest.due(10, x -> x.size(0));
    greatest.due(9990, x -> x.secondsOf(0));
    LONG.then(x -> x.removeTrack(23)).due(23, x -> x.tracks());
    Scene ten = filled(9);
    ten.due(9999, x -> x.secondsOf(0));
    ten.due(11, x -> x.size(0));
    filled(10).due(10, x -> x.size(0));
  }

  /** Ten tracks of 999 s and one of this length behind them, within the greatest limit. */
  private static Scene filled(int length) {
    return new Scene(
        x -> {
          x.addTrack(length, 0);
          for (int track = 1; track <= 10; track++) {
            x.addTrack(999, 1);
          }
          x.addList(x.rated(0), 'n', 9999);
        });
  }

  private static void leastLimit() {
    Scene least = FIVE.then(x -> x.setLimit(0, 1));
    least.due(0, x -> x.size(0));
    least.due(5, x -> x.matches(0));
    least.then(x -> x.addTrack(1, 0)).due(5, x -> x.trackAt(0, 0));
    least.then(x -> x.addTrack(1, 0)).then(x -> x.addTrack(1, 0)).due(1, x -> x.size(0));
  }

  private static void nextOnes() {
    Scene greatestFirst = FIVE.then(x -> x.setOrder(0, 'r'));
    dueTracks(greatestFirst.then(x -> x.setLimit(0, 110)), 0, 0, 4);
    dueTracks(greatestFirst.then(x -> x.setLimit(0, 139)), 0, 0, 4);
    dueTracks(greatestFirst.then(x -> x.setLimit(0, 140)), 0, 0, 2);
    dueTracks(greatestFirst.then(x -> x.setLimit(0, 150)), 0, 0, 2, 4);
    dueTracks(greatestFirst.then(x -> x.setLimit(0, 59)), 0, 2, 4);
    dueTracks(FIVE.then(x -> x.setOrder(0, 'n')).then(x -> x.setLimit(0, 115)), 0, 4, 3, 2);
  }

  // Promises 40 to 42

  private static void matchesOfNone() {
    Scene.noList((x, list) -> x.matches(list));
  }

  private static void matches() {
    ALL_AND_NONE.due(24, x -> x.matches(0));
    ALL_AND_NONE.due(0, x -> x.matches(1));
    ALL_AND_NONE.then(x -> x.setLimit(0, 1)).due(24, x -> x.matches(0));
    ALL_AND_NONE.then(x -> x.removeTrack(23)).due(23, x -> x.matches(0));
    Scene removed = ALL_AND_NONE.then(x -> x.removeTrack(0)).then(x -> x.setRule(0, 1));
    removed.due(0, x -> x.matches(0));
  }

  private static void matchesAlong() {
    Scene one = BACKWARD.then(x -> x.addTrack(50, 0));
    Scene left = one.then(x -> x.setLimit(7, 1));
    for (int list = 0; list < 8; list++) {
      int asked = list;
      one.due(list % 2 == 0 ? 2 : 1, x -> x.matches(asked));
      left.due(list == 7 ? 1 : list % 2 == 0 ? 3 : 0, x -> x.matches(asked));
    }
  }

  private static void sizeOfNoList() {
    Scene.noList((x, list) -> x.size(list));
  }

  private static void size() {
    ALL_AND_NONE.due(24, x -> x.size(0));
    ALL_AND_NONE.due(0, x -> x.size(1));
    ALL_AND_NONE.then(x -> x.setLimit(0, 998)).due(0, x -> x.size(0));
    ALL_AND_NONE.then(x -> x.setLimit(0, 999)).due(1, x -> x.size(0));
  }

  private static void trackAtOfNone() {
    Scene.noList((x, list) -> x.trackAt(list, 0));
  }

  private static void trackAt() {
    ALL_AND_NONE.due(0, x -> x.trackAt(0, 0));
    ALL_AND_NONE.due(23, x -> x.trackAt(0, 23));
    Scene turned = ALL_AND_NONE.then(x -> x.setOrder(0, 'n'));
    turned.due(23, x -> x.trackAt(0, 0));
    turned.due(0, x -> x.trackAt(0, 23));
    FIVE.due(4, x -> x.trackAt(0, 0));
    FIVE.due(0, x -> x.trackAt(0, 4));
  }

  private static void trackAtNoRank() {
    for (int rank : new int[] {-1, 24, 25, 32, Scene.LOW, Scene.HIGH}) {
      ALL_AND_NONE.refused(Scene.INDEX, x -> x.trackAt(0, rank));
    }
    for (int rank : new int[] {-1, 0, 1, Scene.LOW, Scene.HIGH}) {
      ALL_AND_NONE.refused(Scene.INDEX, x -> x.trackAt(1, rank));
    }
    FIVE.refused(Scene.INDEX, x -> x.trackAt(0, 5));
    // Matches that are left out have no rank.
    Scene left = FIVE.then(x -> x.setLimit(0, 110));
    left.due(1, x -> x.trackAt(0, 2));
    left.refused(Scene.INDEX, x -> x.trackAt(0, 3));
  }

  private static void trackAtNoneFirst() {
    for (int rank : new int[] {-1, 24, Scene.LOW, Scene.HIGH}) {
      ALL_AND_NONE.refused(Scene.NONE, x -> x.trackAt(2, rank));
      ALL_AND_NONE.refused(Scene.NONE, x -> x.trackAt(-1, rank));
      Scene.FULL.refused(Scene.NONE, x -> x.trackAt(8, rank));
    }
  }

  // Promises 43 and 44

  private static void containsOfNoList() {
    Scene.noList((x, list) -> x.contains(list, 0));
  }

  private static void containsOfNoTrack() {
    Scene.noTrack((x, track) -> x.contains(0, track));
    Scene.noTrack((x, track) -> x.contains(1, track));
  }

  private static void contains() {
    for (int track : new int[] {0, 23}) {
      ALL_AND_NONE.due(true, x -> x.contains(0, track));
      ALL_AND_NONE.due(false, x -> x.contains(1, track));
    }
    Scene last = ALL_AND_NONE.then(x -> x.setOrder(0, 'n')).then(x -> x.setLimit(0, 999));
    last.due(true, x -> x.contains(0, 23));
    last.due(false, x -> x.contains(0, 0));
  }

  private static void roundsOfNoList() {
    Scene.noList((x, list) -> x.containsByRounds(list, 0));
  }

  private static void roundsOfNoTrack() {
    Scene.noTrack((x, track) -> x.containsByRounds(0, track));
    Scene.noTrack((x, track) -> x.containsByRounds(1, track));
  }

  private static void containsByRounds() {
    for (int track : new int[] {0, 23}) {
      ALL_AND_NONE.due(true, x -> x.containsByRounds(0, track));
      ALL_AND_NONE.due(false, x -> x.containsByRounds(1, track));
    }
    Scene last = ALL_AND_NONE.then(x -> x.setOrder(0, 'n')).then(x -> x.setLimit(0, 999));
    last.due(true, x -> x.containsByRounds(0, 23));
    last.due(false, x -> x.containsByRounds(0, 0));
  }

  /** Every second list, the start among them, holds the track 0; the others hold the track 1. */
  private static void dueByTurns(Scene chain, int start) {
    for (int list = 0; list < 8; list++) {
      int asked = list;
      boolean same = (list - start) % 2 == 0;
      chain.due(same, x -> x.contains(asked, 0));
      chain.due(!same, x -> x.contains(asked, 1));
      chain.due(same, x -> x.containsByRounds(asked, 0));
      chain.due(!same, x -> x.containsByRounds(asked, 1));
    }
  }

  private static void chainForward() {
    dueByTurns(FORWARD, 0);
    Scene turned = FORWARD.then(x -> x.setRating(0, 1)).then(x -> x.setRating(1, 2));
    dueByTurns(turned, 1);
    turned.due(8, x -> x.touched());
  }

  private static void chainBackward() {
    dueByTurns(BACKWARD, 7);
    Scene turned = BACKWARD.then(x -> x.setRating(0, 1)).then(x -> x.setRating(1, 2));
    dueByTurns(turned, 0);
    turned.due(8, x -> x.touched());
  }

  // Promises 45 to 47

  private static void secondsOfNone() {
    Scene.noList((x, list) -> x.secondsOf(list));
  }

  private static void secondsOf() {
    ALL_AND_NONE.due(0, x -> x.secondsOf(1));
    ALL_AND_NONE.due(23976, x -> x.secondsOf(0));
    ALL_AND_NONE.then(x -> x.removeTrack(23)).due(22977, x -> x.secondsOf(0));
    FIVE.due(270, x -> x.secondsOf(0));
    FIVE.then(x -> x.setLimit(0, 10)).due(10, x -> x.secondsOf(0));
  }

  private static void commonOfNone() {
    Scene.noList((x, list) -> x.common(list, 0));
    Scene.noList((x, list) -> x.common(0, list));
    Scene.noList((x, list) -> x.common(list, list));
  }

  private static void common() {
    ALL_AND_NONE.due(24, x -> x.common(0, 0));
    ALL_AND_NONE.due(0, x -> x.common(1, 1));
    ALL_AND_NONE.due(0, x -> x.common(0, 1));
    ALL_AND_NONE.due(0, x -> x.common(1, 0));
    Scene some = ALL_AND_NONE.then(x -> x.setRule(1, 0)).then(x -> x.setLimit(1, 1998));
    some.due(2, x -> x.common(0, 1));
    some.due(2, x -> x.common(1, 0));
    some.then(x -> x.setOrder(0, 'n')).then(x -> x.setLimit(0, 1998)).due(0, x -> x.common(0, 1));
  }

  private static void dependsOnNone() {
    Scene.noList((x, list) -> x.dependsOn(list, 0));
    Scene.noList((x, list) -> x.dependsOn(0, list));
    Scene.noList((x, list) -> x.dependsOn(list, list));
  }

  private static void dependsOnItself() {
    for (int list = 0; list < 8; list++) {
      int asked = list;
      FORWARD.due(false, x -> x.dependsOn(asked, asked));
      BACKWARD.due(false, x -> x.dependsOn(asked, asked));
    }
  }

  private static void dependsOnNext() {
    for (int list = 1; list < 8; list++) {
      int asked = list;
      FORWARD.due(true, x -> x.dependsOn(asked, asked - 1));
      FORWARD.due(false, x -> x.dependsOn(asked - 1, asked));
    }
  }

  private static void dependsAlongEight() {
    for (int list = 0; list < 8; list++) {
      for (int other = 0; other < 8; other++) {
        int one = list;
        int two = other;
        FORWARD.due(two < one, x -> x.dependsOn(one, two));
        BACKWARD.due(two > one, x -> x.dependsOn(one, two));
      }
    }
    Scene cut = FORWARD.then(x -> x.setRule(4, 0));
    cut.due(true, x -> x.dependsOn(7, 4));
    cut.due(false, x -> x.dependsOn(7, 3));
  }

  private static void dependsByPart() {
    Scene asking = FIVE.then(x -> x.inList(0));
    asking.then(x -> x.addList(x.both(1, 2), 's', 0)).due(true, x -> x.dependsOn(1, 0));
    asking.then(x -> x.addList(x.both(2, 1), 's', 0)).due(true, x -> x.dependsOn(1, 0));
    asking.then(x -> x.addList(x.either(0, 2), 's', 0)).due(true, x -> x.dependsOn(1, 0));
    asking.then(x -> x.addList(x.either(2, 0), 's', 0)).due(true, x -> x.dependsOn(1, 0));
    asking.then(x -> x.addList(x.not(x.not(2)), 's', 0)).due(true, x -> x.dependsOn(1, 0));
    asking.then(x -> x.addList(x.both(1, 0), 's', 0)).due(false, x -> x.dependsOn(1, 0));
  }

  private static void dependsByNoRule() {
    Scene asking = FIVE.then(x -> x.not(x.inList(0))).then(x -> x.addList(0, 's', 0));
    asking.due(false, x -> x.dependsOn(1, 0));
    asking.then(x -> x.setRule(1, 3)).due(true, x -> x.dependsOn(1, 0));
    asking.then(x -> x.setRule(1, 3)).then(x -> x.setRule(1, 0)).due(false, x -> x.dependsOn(1, 0));
  }
}
