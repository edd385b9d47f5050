import java.util.Arrays;
import java.util.NoSuchElementException;

/**
 * A music library with live lists: lists are filled by rules that are trees over tags, ratings,
 * plays and other lists, and are kept up to date whenever something changes.
 *
 * <p>Sets of tracks, of tags and of lists are held as bits, 1 for the number 0, 2 for the number 1,
 * and so on.
 */
public final class Smartcrate {
  private static final int MOST_TRACKS = 24;
  private static final int MOST_TAGS = 16;
  private static final int MOST_LETTERS = 6;
  private static final int MOST_RULES = 40;
  private static final int MOST_LISTS = 8;
  private static final int LONGEST_TRACK = 999;
  private static final int BEST_RATING = 5;
  private static final int MOST_PLAYS = 999;
  private static final int MOST_DAYS_PASSED = 365;
  private static final int MOST_DAYS_ASKED = 999;
  private static final int LAST_DAY = 9999;
  private static final int GREATEST_SIZE = 15;
  private static final int GREATEST_LIMIT = 9999;
  private static final int GREATEST_PRODUCT = 2147483647;
  private static final int NEVER = -1;

  private static final int HAS_TAG = 0;
  private static final int RATED = 1;
  private static final int PLAYED_AT_MOST = 2;
  private static final int AS_LONG_AS = 3;
  private static final int PLAYED_WITHIN = 4;
  private static final int IN_LIST = 5;
  private static final int BOTH = 6;
  private static final int EITHER = 7;
  private static final int NOT = 8;

  private static final class Track {
    final int number;
    final int length;
    int rating;
    int plays = 0;
    int lastDay = NEVER;
    int tagSet = 0;

    Track(int number, int length, int rating) {
      this.number = number;
      this.length = length;
      this.rating = rating;
    }
  }

  private static final class Tag {
    final int number;
    final char[] name = new char[MOST_LETTERS];
    int letters = 0;

    /** The tag with which this one was made one; null while this one is not gone. */
    Tag becomes = null;

    /** What undoing needs: all tracks' tags ahead of the change, and the change to undo next. */
    final int[] tagSetsAhead = new int[MOST_TRACKS];
    Tag goneEarlier = null;

    Tag(int number) {
      this.number = number;
    }
  }

  private static final class Rule {
    final int number;
    final int kind;

    /** The tag, the list or the number that a simple rule asks for. */
    final int asked;

    /** The rules of which this one is made; null where there is none. */
    final Rule one;
    final Rule other;

    final int size;

    /** The lists for which this rule, or one of which it is made, asks. */
    final int listSet;

    Rule(int number, int kind, int asked, Rule one, Rule other) {
      this.number = number;
      this.kind = kind;
      this.asked = asked;
      this.one = one;
      this.other = other;
      this.size = 1 + (one == null ? 0 : one.size) + (other == null ? 0 : other.size);
      this.listSet =
          (kind == IN_LIST ? 1 << asked : 0)
              | (one == null ? 0 : one.listSet)
              | (other == null ? 0 : other.listSet);
    }
  }

  private static final class Crate {
    Rule rule;
    char order;
    int limit;

    Crate(Rule rule, char order, int limit) {
      this.rule = rule;
      this.order = order;
      this.limit = limit;
    }
  }

  /** A removed track leaves null behind, so that its number is not given again. */
  private final Track[] allTracks = new Track[MOST_TRACKS];
  private final Tag[] allTags = new Tag[MOST_TAGS];
  private final Rule[] allRules = new Rule[MOST_RULES];
  private final Crate[] allLists = new Crate[MOST_LISTS];
  private int tracksAdded = 0;
  private int tracksLeft = 0;
  private int tagCount = 0;
  private int ruleCount = 0;
  private int listCount = 0;

  /** The tracks in each list: as they are kept, as they were, and as the rounds fill them. */
  private final int[] kept = new int[MOST_LISTS];
  private final int[] keptAhead = new int[MOST_LISTS];
  private final int[] byRounds = new int[MOST_LISTS];

  private final int[][] distanceTable = new int[MOST_LETTERS + 1][MOST_LETTERS + 1];

  /** The tag that undoTidy brings back; null if nothing can be undone. */
  private Tag goneLatest = null;

  private int day = 0;
  private long secondsPlayed = 0;
  private int listsTouched = 0;

  public Smartcrate() {}

  // Tracks and days

  public int addTrack(int length, int rating)
      throws IllegalArgumentException, IllegalStateException {
    needRange(length, 1, LONGEST_TRACK);
    needRange(rating, 0, BEST_RATING);
    int number = tracksAdded;
    if (number >= MOST_TRACKS) {
      throw new IllegalStateException("no more tracks can be added");
    }
    allTracks[number] = new Track(number, length, rating);
    tracksAdded++;
    tracksLeft++;
    update();
    return number;
  }

  public int removeTrack(int track) throws NoSuchElementException {
    Track removed = needTrack(track);
    allTracks[removed.number] = null;
    tracksLeft--;
    update();
    return tracksLeft;
  }

  public int setRating(int track, int rating)
      throws NoSuchElementException, IllegalArgumentException {
    Track rerated = needTrack(track);
    needRange(rating, 0, BEST_RATING);
    int before = rerated.rating;
    rerated.rating = rating;
    update();
    return before;
  }

  public int play(int track) throws NoSuchElementException, IllegalStateException {
    Track played = needTrack(track);
    if (played.plays >= MOST_PLAYS) {
      throw new IllegalStateException("the track cannot be played more often");
    }
    played.plays++;
    played.lastDay = day;
    secondsPlayed += played.length;
    update();
    return played.plays;
  }

  public int pass(int days) throws IllegalArgumentException, IllegalStateException {
    needRange(days, 1, MOST_DAYS_PASSED);
    if (days > LAST_DAY - day) {
      throw new IllegalStateException("there are no days that late");
    }
    day += days;
    update();
    return day;
  }

  // Tags

  public int addTag() throws IllegalStateException {
    int number = tagCount;
    if (number >= MOST_TAGS) {
      throw new IllegalStateException("no more tags can be added");
    }
    allTags[number] = new Tag(number);
    tagCount++;
    return number;
  }

  public int letter(int tag, char letter)
      throws NoSuchElementException, IllegalArgumentException, IllegalStateException {
    Tag named = needTag(tag);
    needRange(letter, 'a', 'z');
    if (named.letters >= MOST_LETTERS) {
      throw new IllegalStateException("the name has no room for a letter");
    }
    named.name[named.letters] = letter;
    named.letters++;
    return named.letters;
  }

  public int tag(int track, int tag) throws NoSuchElementException, IllegalStateException {
    Track tagged = needTrack(track);
    int bit = 1 << needTag(tag).number;
    if ((tagged.tagSet & bit) != 0) {
      throw new IllegalStateException("the track has the tag");
    }
    return changeTags(tagged, tagged.tagSet | bit);
  }

  public int untag(int track, int tag) throws NoSuchElementException, IllegalStateException {
    Track untagged = needTrack(track);
    int bit = 1 << needTag(tag).number;
    if ((untagged.tagSet & bit) == 0) {
      throw new IllegalStateException("the track does not have the tag");
    }
    return changeTags(untagged, untagged.tagSet & ~bit);
  }

  public int tidy(int tag, int other)
      throws NoSuchElementException, IllegalArgumentException, UnsupportedOperationException {
    Tag stays = needTag(tag);
    Tag goes = needTag(other);
    if (stays.number == goes.number) {
      throw new IllegalArgumentException("a tag cannot be made one with itself");
    }
    if (distanceByTable(stays, goes) > 1) {
      throw new UnsupportedOperationException("the names are not nearly alike");
    }
    goes.becomes = stays;
    goes.goneEarlier = goneLatest;
    goneLatest = goes;
    int losing = moveTag(stays, goes);
    update();
    return losing;
  }

  public int undoTidy() throws IllegalStateException {
    Tag back = goneLatest;
    if (back == null) {
      throw new IllegalStateException("nothing can be undone");
    }
    goneLatest = back.goneEarlier;
    back.goneEarlier = null;
    back.becomes = null;
    for (int number = 0; number < MOST_TRACKS; number++) {
      Track track = trackOrNull(number);
      if (track != null) {
        track.tagSet = back.tagSetsAhead[number];
      }
    }
    update();
    return back.number;
  }

  // Rules

  public int hasTag(int tag) throws NoSuchElementException, IllegalStateException {
    return addRule(HAS_TAG, needTag(tag).number, null, null);
  }

  public int rated(int least) throws IllegalArgumentException, IllegalStateException {
    needRange(least, 0, BEST_RATING);
    return addRule(RATED, least, null, null);
  }

  public int playedAtMost(int most) throws IllegalArgumentException, IllegalStateException {
    needRange(most, 0, MOST_PLAYS);
    return addRule(PLAYED_AT_MOST, most, null, null);
  }

  public int asLongAs(int most) throws IllegalArgumentException, IllegalStateException {
    needRange(most, 1, LONGEST_TRACK);
    return addRule(AS_LONG_AS, most, null, null);
  }

  public int playedWithin(int days) throws IllegalArgumentException, IllegalStateException {
    needRange(days, 0, MOST_DAYS_ASKED);
    return addRule(PLAYED_WITHIN, days, null, null);
  }

  public int inList(int list) throws NoSuchElementException, IllegalStateException {
    needList(list);
    return addRule(IN_LIST, list, null, null);
  }

  public int both(int one, int other)
      throws NoSuchElementException, UnsupportedOperationException, IllegalStateException {
    return addRule(BOTH, 0, needRule(one), needRule(other));
  }

  public int either(int one, int other)
      throws NoSuchElementException, UnsupportedOperationException, IllegalStateException {
    return addRule(EITHER, 0, needRule(one), needRule(other));
  }

  public int not(int rule)
      throws NoSuchElementException, UnsupportedOperationException, IllegalStateException {
    return addRule(NOT, 0, needRule(rule), null);
  }

  // Lists

  public int addList(int rule, char order, int limit)
      throws NoSuchElementException, IllegalArgumentException, IllegalStateException {
    Rule filling = needRule(rule);
    needOrder(order);
    needRange(limit, 0, GREATEST_LIMIT);
    int number = listCount;
    if (number >= MOST_LISTS) {
      throw new IllegalStateException("no more lists can be added");
    }
    allLists[number] = new Crate(filling, order, limit);
    listCount++;
    fillKept();
    return number;
  }

  public int setRule(int list, int rule)
      throws NoSuchElementException, UnsupportedOperationException {
    Crate changed = needList(list);
    Rule filling = needRule(rule);
    if (hasBit(withListsBehind(filling.listSet), list)) {
      throw new UnsupportedOperationException("the list would depend on itself");
    }
    int before = changed.rule.number;
    changed.rule = filling;
    update();
    return before;
  }

  public char setOrder(int list, char order)
      throws NoSuchElementException, IllegalArgumentException {
    Crate changed = needList(list);
    needOrder(order);
    char before = changed.order;
    changed.order = order;
    update();
    return before;
  }

  public int setLimit(int list, int limit)
      throws NoSuchElementException, IllegalArgumentException {
    Crate changed = needList(list);
    needRange(limit, 0, GREATEST_LIMIT);
    int before = changed.limit;
    changed.limit = limit;
    update();
    return before;
  }

  // Questions about tracks and days

  public int tracks() {
    return tracksLeft;
  }

  public int today() {
    return day;
  }

  public int lengthOf(int track) throws NoSuchElementException {
    return needTrack(track).length;
  }

  public int ratingOf(int track) throws NoSuchElementException {
    return needTrack(track).rating;
  }

  public int playsOf(int track) throws NoSuchElementException {
    return needTrack(track).plays;
  }

  public int playedLast(int track) throws NoSuchElementException, IllegalStateException {
    Track asked = needTrack(track);
    if (asked.lastDay == NEVER) {
      throw new IllegalStateException("the track was never played");
    }
    return asked.lastDay;
  }

  public int tagBits(int track) throws NoSuchElementException {
    return needTrack(track).tagSet;
  }

  // Questions about tags

  public int nameLength(int tag) throws NoSuchElementException {
    return needTag(tag).letters;
  }

  public char nameAt(int tag, int index)
      throws NoSuchElementException, IndexOutOfBoundsException {
    Tag named = needTag(tag);
    if (index < 0 || index >= named.letters) {
      throw new IndexOutOfBoundsException("the name has no such letter");
    }
    return named.name[index];
  }

  public int distance(int tag, int other) throws NoSuchElementException {
    return distanceByTable(needTag(tag), needTag(other));
  }

  public int distanceByTrying(int tag, int other) throws NoSuchElementException {
    Tag from = needTag(tag);
    Tag to = needTag(other);
    return leastByTrying(from, from.letters, to, to.letters);
  }

  public int nearest(int tag) throws NoSuchElementException, IllegalStateException {
    Tag from = needTag(tag);
    Tag best = null;
    int least = 0;
    for (int number = 0; number < MOST_TAGS; number++) {
      Tag tried = tagOrNull(number);
      if (tried != null && tried.becomes == null && number != from.number) {
        int distance = distanceByTable(from, tried);
        if (best == null || distance < least) {
          best = tried;
          least = distance;
        }
      }
    }
    if (best == null) {
      throw new IllegalStateException("there is no other tag");
    }
    return best.number;
  }

  // Questions about rules and lists

  public int sizeOf(int rule) throws NoSuchElementException {
    return needRule(rule).size;
  }

  public boolean holds(int rule, int track) throws NoSuchElementException {
    Rule asked = needRule(rule);
    needTrack(track);
    return hasBit(tracksMeeting(asked, kept), track);
  }

  public int matches(int list) throws NoSuchElementException {
    return Integer.bitCount(tracksMeeting(needList(list).rule, kept));
  }

  public int size(int list) throws NoSuchElementException {
    needList(list);
    return Integer.bitCount(kept[list]);
  }

  public int trackAt(int list, int rank)
      throws NoSuchElementException, IndexOutOfBoundsException {
    Crate asked = needList(list);
    if (rank < 0 || rank >= Integer.bitCount(kept[list])) {
      throw new IndexOutOfBoundsException("the list has no such rank");
    }
    int left = kept[list];
    int first = firstOf(left, asked.order);
    for (int passed = 0; passed < rank; passed++) {
      left &= ~(1 << first);
      first = firstOf(left, asked.order);
    }
    return first;
  }

  public boolean contains(int list, int track) throws NoSuchElementException {
    needList(list);
    needTrack(track);
    return hasBit(kept[list], track);
  }

  public boolean containsByRounds(int list, int track) throws NoSuchElementException {
    needList(list);
    needTrack(track);
    fillByRounds();
    return hasBit(byRounds[list], track);
  }

  public int secondsOf(int list) throws NoSuchElementException {
    needList(list);
    return lengthsOf(kept[list]);
  }

  public int common(int list, int other) throws NoSuchElementException {
    needList(list);
    needList(other);
    return Integer.bitCount(kept[list] & kept[other]);
  }

  public boolean dependsOn(int list, int other) throws NoSuchElementException {
    Crate asked = needList(list);
    needList(other);
    return hasBit(withListsBehind(asked.rule.listSet), other);
  }

  public int touched() {
    return listsTouched;
  }

  public int mixes(int list) throws NoSuchElementException, ArithmeticException {
    needList(list);
    long product = 1;
    for (int number = 0; number < MOST_TRACKS; number++) {
      Track track = trackOrNull(number);
      if (track != null && hasBit(kept[list], number)) {
        product *= track.plays + 1;
        if (product > GREATEST_PRODUCT) {
          throw new ArithmeticException("the product is too great");
        }
      }
    }
    return (int) product;
  }

  public long seconds() {
    return secondsPlayed;
  }

  public float listedShare() throws ArithmeticException {
    if (tracksLeft == 0) {
      throw new ArithmeticException("there are no tracks");
    }
    int listed = 0;
    for (int list = 0; list < MOST_LISTS; list++) {
      listed |= kept[list];
    }
    return (float) Integer.bitCount(listed) / (float) tracksLeft;
  }

  public double meanLength(int list) throws NoSuchElementException, ArithmeticException {
    needList(list);
    int count = Integer.bitCount(kept[list]);
    if (count == 0) {
      throw new ArithmeticException("the list has no tracks");
    }
    return (double) lengthsOf(kept[list]) / (double) count;
  }

  // Looking up, with the document's exceptions

  private Track trackOrNull(int number) {
    return number >= 0 && number < MOST_TRACKS ? allTracks[number] : null;
  }

  private Track needTrack(int number) {
    Track track = trackOrNull(number);
    if (track == null) {
      throw new NoSuchElementException("there is no such track");
    }
    return track;
  }

  /** Finds tags that are gone, too. */
  private Tag tagOrNull(int number) {
    return number >= 0 && number < MOST_TAGS ? allTags[number] : null;
  }

  private Tag needTag(int number) {
    Tag tag = tagOrNull(number);
    if (tag == null || tag.becomes != null) {
      throw new NoSuchElementException("there is no such tag");
    }
    return tag;
  }

  private Rule needRule(int number) {
    Rule rule = number >= 0 && number < MOST_RULES ? allRules[number] : null;
    if (rule == null) {
      throw new NoSuchElementException("there is no such rule");
    }
    return rule;
  }

  private Crate listOrNull(int number) {
    return number >= 0 && number < MOST_LISTS ? allLists[number] : null;
  }

  private Crate needList(int number) {
    Crate list = listOrNull(number);
    if (list == null) {
      throw new NoSuchElementException("there is no such list");
    }
    return list;
  }

  private static void needRange(int value, int least, int most) {
    if (value < least || value > most) {
      throw new IllegalArgumentException("a value is out of range");
    }
  }

  private static void needOrder(char order) {
    if (order != 's' && order != 'r' && order != 'p' && order != 'n') {
      throw new IllegalArgumentException("there is no such order of choice");
    }
  }

  private static boolean hasBit(int set, int number) {
    return (set & 1 << number) != 0;
  }

  // Tags

  /** Once a track's tags have changed by hand, no earlier tidying can be undone any more. */
  private int changeTags(Track track, int tagSet) {
    track.tagSet = tagSet;
    goneLatest = null;
    update();
    return Integer.bitCount(tagSet);
  }

  private int moveTag(Tag stays, Tag goes) {
    int losing = 0;
    for (int number = 0; number < MOST_TRACKS; number++) {
      Track track = trackOrNull(number);
      // A track that is added later starts without tags, so undoing gives it none.
      goes.tagSetsAhead[number] = track == null ? 0 : track.tagSet;
      if (track != null && hasBit(track.tagSet, goes.number)) {
        track.tagSet = track.tagSet & ~(1 << goes.number) | 1 << stays.number;
        losing++;
      }
    }
    return losing;
  }

  /** What a rule that was made with a tag means now, as a bit. */
  private int bitMeant(int number) {
    Tag tag = tagOrNull(number);
    for (int step = 0; step < MOST_TAGS && tag != null && tag.becomes != null; step++) {
      tag = tag.becomes;
    }
    return tag == null ? 0 : 1 << tag.number;
  }

  private int distanceByTable(Tag one, Tag other) {
    for (int i = 0; i <= one.letters; i++) {
      for (int j = 0; j <= other.letters; j++) {
        if (i == 0 || j == 0) {
          distanceTable[i][j] = i + j;
        } else {
          int changed = one.name[i - 1] == other.name[j - 1] ? 0 : 1;
          int replaced = distanceTable[i - 1][j - 1] + changed;
          int takenOrAdded = Math.min(distanceTable[i - 1][j], distanceTable[i][j - 1]) + 1;
          distanceTable[i][j] = Math.min(replaced, takenOrAdded);
        }
      }
    }
    return distanceTable[one.letters][other.letters];
  }

  /** Compares the first letters alone, so many of each name as are told. */
  private static int leastByTrying(Tag one, int oneLetters, Tag other, int otherLetters) {
    if (oneLetters <= 0) {
      return otherLetters;
    }
    if (otherLetters <= 0) {
      return oneLetters;
    }
    int changed = one.name[oneLetters - 1] == other.name[otherLetters - 1] ? 0 : 1;
    int replaced = leastByTrying(one, oneLetters - 1, other, otherLetters - 1) + changed;
    int taken = leastByTrying(one, oneLetters - 1, other, otherLetters) + 1;
    int added = leastByTrying(one, oneLetters, other, otherLetters - 1) + 1;
    return Math.min(replaced, Math.min(taken, added));
  }

  // Rules

  private int addRule(int kind, int asked, Rule one, Rule other) {
    Rule rule = new Rule(ruleCount, kind, asked, one, other);
    if (rule.size > GREATEST_SIZE) {
      throw new UnsupportedOperationException("the rule would be too great");
    }
    if (rule.number >= MOST_RULES) {
      throw new IllegalStateException("no more rules can be added");
    }
    allRules[rule.number] = rule;
    ruleCount++;
    return rule.number;
  }

  /**
   * The tracks for which a rule holds while the lists have the given sets of tracks. The greatest
   * size of a rule keeps the recursion low.
   */
  private int tracksMeeting(Rule rule, int[] sets) {
    if (rule == null) {
      return 0;
    }
    switch (rule.kind) {
      case BOTH:
        return tracksMeeting(rule.one, sets) & tracksMeeting(rule.other, sets);
      case EITHER:
        return tracksMeeting(rule.one, sets) | tracksMeeting(rule.other, sets);
      case NOT:
        return tracksThere() & ~tracksMeeting(rule.one, sets);
      case IN_LIST:
        return rule.asked >= 0 && rule.asked < sets.length ? sets[rule.asked] : 0;
      case HAS_TAG:
        return tracksTagged(bitMeant(rule.asked));
      default:
        return tracksMeetingNumber(rule.kind, rule.asked);
    }
  }

  private int tracksThere() {
    int set = 0;
    for (int number = 0; number < MOST_TRACKS; number++) {
      if (trackOrNull(number) != null) {
        set |= 1 << number;
      }
    }
    return set;
  }

  private int tracksTagged(int bit) {
    int set = 0;
    for (int number = 0; number < MOST_TRACKS; number++) {
      Track track = trackOrNull(number);
      if (track != null && (track.tagSet & bit) != 0) {
        set |= 1 << number;
      }
    }
    return set;
  }

  private int tracksMeetingNumber(int kind, int asked) {
    int set = 0;
    for (int number = 0; number < MOST_TRACKS; number++) {
      Track track = trackOrNull(number);
      if (track != null && meetsNumber(track, kind, asked)) {
        set |= 1 << number;
      }
    }
    return set;
  }

  private boolean meetsNumber(Track track, int kind, int asked) {
    switch (kind) {
      case RATED:
        return track.rating >= asked;
      case PLAYED_AT_MOST:
        return track.plays <= asked;
      case AS_LONG_AS:
        return track.length <= asked;
      case PLAYED_WITHIN:
        return track.lastDay != NEVER && day - track.lastDay <= asked;
      default:
        return false;
    }
  }

  // Lists

  /** The given lists, and all lists on which they depend. */
  private int withListsBehind(int listSet) {
    int reached = listSet;
    for (int step = 0; step < MOST_LISTS; step++) {
      for (int number = 0; number < MOST_LISTS; number++) {
        Crate list = listOrNull(number);
        if (list != null && hasBit(reached, number)) {
          reached |= list.rule.listSet;
        }
      }
    }
    return reached;
  }

  /** Brings the lists up to date behind a change, and counts those with another set of tracks. */
  private void update() {
    System.arraycopy(kept, 0, keptAhead, 0, MOST_LISTS);
    fillKept();
    listsTouched = 0;
    for (int number = 0; number < MOST_LISTS; number++) {
      if (kept[number] != keptAhead[number]) {
        listsTouched++;
      }
    }
  }

  /** Fills each list once, behind all those on which it depends. */
  private void fillKept() {
    int ready = 0;
    for (int step = 0; step < MOST_LISTS; step++) {
      for (int number = 0; number < MOST_LISTS; number++) {
        Crate list = listOrNull(number);
        if (list != null && !hasBit(ready, number) && (list.rule.listSet & ~ready) == 0) {
          kept[number] = chosen(list, kept);
          ready |= 1 << number;
        }
      }
    }
  }

  /** No list depends on itself, so one round more than there are lists finds nothing to change. */
  private void fillByRounds() {
    Arrays.fill(byRounds, 0);
    boolean changing = true;
    for (int round = 0; changing && round <= MOST_LISTS; round++) {
      changing = false;
      for (int number = 0; number < MOST_LISTS; number++) {
        Crate list = listOrNull(number);
        int filled = list == null ? 0 : chosen(list, byRounds);
        if (filled != byRounds[number]) {
          byRounds[number] = filled;
          changing = true;
        }
      }
    }
  }

  /** The tracks that a list takes while the lists have the given sets of tracks. */
  private int chosen(Crate list, int[] sets) {
    int left = tracksMeeting(list.rule, sets);
    int taken = 0;
    int seconds = 0;
    for (int count = Integer.bitCount(left); count > 0; count--) {
      int first = firstOf(left, list.order);
      left &= ~(1 << first);
      int longer = seconds + lengthsOf(1 << first);
      if (list.limit == 0 || longer <= list.limit) {
        taken |= 1 << first;
        seconds = longer;
      }
    }
    return taken;
  }

  /** The number of the track that comes first of a set in an order of choice; 0 of no tracks. */
  private int firstOf(int set, char order) {
    Track first = null;
    for (int number = 0; number < MOST_TRACKS; number++) {
      Track track = trackOrNull(number);
      if (track != null && hasBit(set, number)
          && (first == null || placeIn(track, order) < placeIn(first, order))) {
        first = track;
      }
    }
    return first == null ? 0 : first.number;
  }

  /** What an order of choice compares: the lesser place comes first. */
  private static int placeIn(Track track, char order) {
    switch (order) {
      case 's':
        return track.length;
      case 'r':
        return -track.rating;
      case 'p':
        return track.plays;
      default:
        return -track.number;
    }
  }

  private int lengthsOf(int set) {
    int sum = 0;
    for (int number = 0; number < MOST_TRACKS; number++) {
      Track track = trackOrNull(number);
      if (track != null && hasBit(set, number)) {
        sum += track.length;
      }
    }
    return sum;
  }
}
