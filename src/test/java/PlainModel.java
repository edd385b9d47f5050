import java.util.ArrayDeque;
import java.util.ArrayList;
import java.util.Arrays;
import java.util.Comparator;
import java.util.Deque;
import java.util.HashMap;
import java.util.List;
import java.util.Map;
import java.util.NoSuchElementException;
import java.util.Set;
import java.util.TreeMap;
import java.util.TreeSet;
import java.util.function.IntPredicate;

/**
 * The document in the plainest words of the Java library, to compare with: it keeps no list, but
 * fills each one anew from its rule whenever it is asked for. Its public methods are the face's.
 */
final class PlainModel {
  private static final class Song {
    int length;
    int rating;
    int plays;
    int last = -1;
    Set<Integer> tags = new TreeSet<>();
  }

  private static final class Change {
    int gone;
    boolean spoilt;
    Map<Integer, Set<Integer>> tagsAhead = new HashMap<>();
  }

  private static final class Ask {
    IntPredicate holds;
    int size;
    Set<Integer> lists = new TreeSet<>();
  }

  private static final class Live {
    int rule;
    char order;
    int limit;
  }

  private final Map<Integer, Song> songs = new TreeMap<>();
  private int songsAdded = 0;
  private final List<StringBuilder> names = new ArrayList<>();
  private final Map<Integer, Integer> becomes = new HashMap<>();
  private final Deque<Change> changes = new ArrayDeque<>();
  private final List<Ask> rules = new ArrayList<>();
  private final List<Live> lists = new ArrayList<>();
  private final Map<Integer, List<Integer>> found = new HashMap<>();
  private int today = 0;
  private long seconds = 0;
  private int touched = 0;

  /** How many numbers of a kind have been given: 't' tracks, 'g' tags, 'r' rules, 'l' lists. */
  int given(char kind) {
    switch (kind) {
      case 't':
        return songsAdded;
      case 'g':
        return names.size();
      case 'r':
        return rules.size();
      default:
        return lists.size();
    }
  }

  // What is there, and what is refused

  private Song song(int track) {
    if (!songs.containsKey(track)) {
      throw new NoSuchElementException();
    }
    return songs.get(track);
  }

  private void haveTag(int tag) {
    if (tag < 0 || tag >= names.size() || becomes.containsKey(tag)) {
      throw new NoSuchElementException();
    }
  }

  private Ask ruleOf(int rule) {
    if (rule < 0 || rule >= rules.size()) {
      throw new NoSuchElementException();
    }
    return rules.get(rule);
  }

  private Live live(int list) {
    if (list < 0 || list >= lists.size()) {
      throw new NoSuchElementException();
    }
    return lists.get(list);
  }

  private static void range(boolean inside) {
    if (!inside) {
      throw new IllegalArgumentException();
    }
  }

  private static void state(boolean good) {
    if (!good) {
      throw new IllegalStateException();
    }
  }

  // Lists, filled anew

  private List<Integer> matching(int list) {
    List<Integer> all = new ArrayList<>();
    for (int track : songs.keySet()) {
      if (rules.get(lists.get(list).rule).holds.test(track)) {
        all.add(track);
      }
    }
    return all;
  }

  private List<Integer> content(int list) {
    if (!found.containsKey(list)) {
      List<Integer> all = matching(list);
      all.sort(comparator(lists.get(list).order));
      int limit = lists.get(list).limit == 0 ? Integer.MAX_VALUE : lists.get(list).limit;
      List<Integer> taken = new ArrayList<>();
      for (int track : all) {
        if (total(taken) + songs.get(track).length <= limit) {
          taken.add(track);
        }
      }
      found.put(list, taken);
    }
    return found.get(list);
  }

  private int total(List<Integer> tracks) {
    return tracks.stream().mapToInt(track -> songs.get(track).length).sum();
  }

  private Comparator<Integer> comparator(char order) {
    Comparator<Integer> first;
    switch (order) {
      case 's':
        first = Comparator.comparing(track -> songs.get(track).length);
        break;
      case 'r':
        first = Comparator.comparing(track -> 5 - songs.get(track).rating);
        break;
      case 'p':
        first = Comparator.comparing(track -> songs.get(track).plays);
        break;
      default:
        first = Comparator.reverseOrder();
        break;
    }
    return first.thenComparing(Comparator.naturalOrder());
  }

  private List<Set<Integer>> contents() {
    List<Set<Integer>> all = new ArrayList<>();
    for (int list = 0; list < lists.size(); list++) {
      all.add(new TreeSet<>(content(list)));
    }
    return all;
  }

  private void change(Runnable change) {
    List<Set<Integer>> ahead = contents();
    change.run();
    found.clear();
    List<Set<Integer>> behind = contents();
    touched = 0;
    for (int list = 0; list < lists.size(); list++) {
      touched += ahead.get(list).equals(behind.get(list)) ? 0 : 1;
    }
  }

  private boolean asksFor(Set<Integer> asked, int list) {
    for (int one : asked) {
      if (one == list || asksFor(rules.get(lists.get(one).rule).lists, list)) {
        return true;
      }
    }
    return false;
  }

  // The face: what changes

  public int addTrack(int length, int rating) {
    range(length >= 1 && length <= 999 && rating >= 0 && rating <= 5);
    state(songsAdded < 24);
    Song added = new Song();
    added.length = length;
    added.rating = rating;
    change(() -> songs.put(songsAdded++, added));
    return songsAdded - 1;
  }

  public int removeTrack(int track) {
    song(track);
    change(() -> songs.remove(track));
    return songs.size();
  }

  public int setRating(int track, int rating) {
    int before = song(track).rating;
    range(rating >= 0 && rating <= 5);
    change(() -> song(track).rating = rating);
    return before;
  }

  public int play(int track) {
    state(song(track).plays < 999);
    change(() -> {
      song(track).plays++;
      song(track).last = today;
      seconds += song(track).length;
    });
    return song(track).plays;
  }

  public int pass(int days) {
    range(days >= 1 && days <= 365);
    state(today + days <= 9999);
    change(() -> today += days);
    return today;
  }

  public int addTag() {
    state(names.size() < 16);
    names.add(new StringBuilder());
    return names.size() - 1;
  }

  public int letter(int tag, char letter) {
    haveTag(tag);
    range(letter >= 'a' && letter <= 'z');
    state(names.get(tag).length() < 6);
    return names.get(tag).append(letter).length();
  }

  public int tag(int track, int tag) {
    song(track);
    haveTag(tag);
    state(!song(track).tags.contains(tag));
    change(() -> song(track).tags.add(tag));
    changes.forEach(change -> change.spoilt = true);
    return song(track).tags.size();
  }

  public int untag(int track, int tag) {
    song(track);
    haveTag(tag);
    state(song(track).tags.contains(tag));
    change(() -> song(track).tags.remove(tag));
    changes.forEach(change -> change.spoilt = true);
    return song(track).tags.size();
  }

  public int tidy(int tag, int other) {
    haveTag(tag);
    haveTag(other);
    range(tag != other);
    if (distance(tag, other) > 1) {
      throw new UnsupportedOperationException();
    }
    Change made = new Change();
    made.gone = other;
    songs.forEach((track, song) -> made.tagsAhead.put(track, new TreeSet<>(song.tags)));
    int losing = (int) songs.values().stream().filter(s -> s.tags.contains(other)).count();
    changes.push(made);
    change(() -> {
      becomes.put(other, tag);
      for (Song song : songs.values()) {
        if (song.tags.remove(other)) {
          song.tags.add(tag);
        }
      }
    });
    return losing;
  }

  public int undoTidy() {
    state(!changes.isEmpty() && !changes.peek().spoilt);
    Change undone = changes.pop();
    change(() -> {
      becomes.remove(undone.gone);
      undone.tagsAhead.forEach((track, tags) -> {
        if (songs.containsKey(track)) {
          songs.get(track).tags = tags;
        }
      });
    });
    return undone.gone;
  }

  private int rule(int size, Set<Integer> asked, IntPredicate holds) {
    if (size > 15) {
      throw new UnsupportedOperationException();
    }
    state(rules.size() < 40);
    Ask added = new Ask();
    added.size = size;
    added.lists.addAll(asked);
    added.holds = holds;
    rules.add(added);
    return rules.size() - 1;
  }

  private boolean hasMeant(int track, int tag) {
    int meant = tag;
    while (becomes.containsKey(meant)) {
      meant = becomes.get(meant);
    }
    return song(track).tags.contains(meant);
  }

  public int hasTag(int tag) {
    haveTag(tag);
    return rule(1, Set.of(), track -> hasMeant(track, tag));
  }

  public int rated(int least) {
    range(least >= 0 && least <= 5);
    return rule(1, Set.of(), track -> song(track).rating >= least);
  }

  public int playedAtMost(int most) {
    range(most >= 0 && most <= 999);
    return rule(1, Set.of(), track -> song(track).plays <= most);
  }

  public int asLongAs(int most) {
    range(most >= 1 && most <= 999);
    return rule(1, Set.of(), track -> song(track).length <= most);
  }

  public int playedWithin(int days) {
    range(days >= 0 && days <= 999);
    return rule(1, Set.of(), track -> song(track).last >= 0 && song(track).last >= today - days);
  }

  public int inList(int list) {
    live(list);
    return rule(1, Set.of(list), track -> content(list).contains(track));
  }

  private int made(Ask one, Ask other, IntPredicate holds) {
    Set<Integer> asked = new TreeSet<>(one.lists);
    asked.addAll(other.lists);
    return rule(1 + one.size + other.size, asked, holds);
  }

  public int both(int one, int other) {
    Ask left = ruleOf(one);
    Ask right = ruleOf(other);
    return made(left, right, left.holds.and(right.holds));
  }

  public int either(int one, int other) {
    Ask left = ruleOf(one);
    Ask right = ruleOf(other);
    return made(left, right, left.holds.or(right.holds));
  }

  public int not(int rule) {
    Ask inner = ruleOf(rule);
    return made(inner, new Ask(), inner.holds.negate());
  }

  private static boolean isOrder(char order) {
    return "srpn".indexOf(order) >= 0;
  }

  public int addList(int rule, char order, int limit) {
    ruleOf(rule);
    range(isOrder(order) && limit >= 0 && limit <= 9999);
    state(lists.size() < 8);
    Live added = new Live();
    added.rule = rule;
    added.order = order;
    added.limit = limit;
    lists.add(added);
    return lists.size() - 1;
  }

  public int setRule(int list, int rule) {
    int before = live(list).rule;
    if (asksFor(ruleOf(rule).lists, list)) {
      throw new UnsupportedOperationException();
    }
    change(() -> live(list).rule = rule);
    return before;
  }

  public char setOrder(int list, char order) {
    char before = live(list).order;
    range(isOrder(order));
    change(() -> live(list).order = order);
    return before;
  }

  public int setLimit(int list, int limit) {
    int before = live(list).limit;
    range(limit >= 0 && limit <= 9999);
    change(() -> live(list).limit = limit);
    return before;
  }

  // The face: what asks

  public int tracks() {
    return songs.size();
  }

  public int today() {
    return today;
  }

  public int lengthOf(int track) {
    return song(track).length;
  }

  public int ratingOf(int track) {
    return song(track).rating;
  }

  public int playsOf(int track) {
    return song(track).plays;
  }

  public int playedLast(int track) {
    state(song(track).last >= 0);
    return song(track).last;
  }

  public int tagBits(int track) {
    return song(track).tags.stream().mapToInt(tag -> 1 << tag).sum();
  }

  public int nameLength(int tag) {
    haveTag(tag);
    return names.get(tag).length();
  }

  public char nameAt(int tag, int index) {
    haveTag(tag);
    if (index < 0 || index >= names.get(tag).length()) {
      throw new IndexOutOfBoundsException();
    }
    return names.get(tag).charAt(index);
  }

  /** One row of the table at a time. */
  public int distance(int tag, int other) {
    haveTag(tag);
    haveTag(other);
    String one = names.get(tag).toString();
    String two = names.get(other).toString();
    int[] row = new int[two.length() + 1];
    Arrays.setAll(row, i -> i);
    for (char letter : one.toCharArray()) {
      int[] next = new int[row.length];
      next[0] = row[0] + 1;
      for (int i = 1; i < row.length; i++) {
        int replaced = row[i - 1] + (two.charAt(i - 1) == letter ? 0 : 1);
        next[i] = Math.min(replaced, Math.min(row[i], next[i - 1]) + 1);
      }
      row = next;
    }
    return row[two.length()];
  }

  public int distanceByTrying(int tag, int other) {
    return distance(tag, other);
  }

  public int nearest(int tag) {
    haveTag(tag);
    List<Integer> others = new ArrayList<>();
    for (int other = 0; other < names.size(); other++) {
      if (other != tag && !becomes.containsKey(other)) {
        others.add(other);
      }
    }
    state(!others.isEmpty());
    others.sort(Comparator.comparing(other -> distance(tag, other)));
    return others.get(0);
  }

  public int sizeOf(int rule) {
    return ruleOf(rule).size;
  }

  public boolean holds(int rule, int track) {
    Ask asked = ruleOf(rule);
    song(track);
    return asked.holds.test(track);
  }

  public int matches(int list) {
    live(list);
    return matching(list).size();
  }

  public int size(int list) {
    live(list);
    return content(list).size();
  }

  public int trackAt(int list, int rank) {
    live(list);
    if (rank < 0 || rank >= content(list).size()) {
      throw new IndexOutOfBoundsException();
    }
    return content(list).get(rank);
  }

  public boolean contains(int list, int track) {
    live(list);
    song(track);
    return content(list).contains(track);
  }

  public boolean containsByRounds(int list, int track) {
    return contains(list, track);
  }

  public int secondsOf(int list) {
    live(list);
    return total(content(list));
  }

  public int common(int list, int other) {
    live(list);
    live(other);
    List<Integer> both = new ArrayList<>(content(list));
    both.retainAll(content(other));
    return both.size();
  }

  public boolean dependsOn(int list, int other) {
    live(other);
    return asksFor(rules.get(live(list).rule).lists, other);
  }

  public int touched() {
    return touched;
  }

  public int mixes(int list) {
    live(list);
    java.math.BigInteger product = java.math.BigInteger.ONE;
    for (int track : content(list)) {
      product = product.multiply(java.math.BigInteger.valueOf(song(track).plays + 1));
    }
    if (product.bitLength() > 31) {
      throw new ArithmeticException();
    }
    return product.intValue();
  }

  public long seconds() {
    return seconds;
  }

  public float listedShare() {
    if (songs.isEmpty()) {
      throw new ArithmeticException();
    }
    Set<Integer> listed = new TreeSet<>();
    contents().forEach(listed::addAll);
    return (float) listed.size() / songs.size();
  }

  public double meanLength(int list) {
    live(list);
    if (content(list).isEmpty()) {
      throw new ArithmeticException();
    }
    return (double) total(content(list)) / content(list).size();
  }
}
