/**
 * Promises 8 to 10: longest, chained, front. The terms of a MATCH bind all three, so that each of
 * their sentences is tested for each of the promises.
 */
public final class MatchTest {
  private static final Due DUE = new Due("MatchTest");
  private static final int MIN = Integer.MIN_VALUE;
  private static final int MAX = Integer.MAX_VALUE;
  private static final int LONGEST = 8;
  private static final int CHAINED = 9;
  private static final int FRONT = 10;

  public static void main(String[] args) {
    for (int promise = LONGEST; promise <= FRONT; promise++) {
      lengthTooSmall(promise);
      lengthTooLarge(promise);
      distanceOne(promise);
      distanceUpToSpan(promise);
      distanceUpToTheFirstByte(promise);
      distanceUpToTheDictionary(promise);
      distanceNotIntoOlderDictionaries(promise);
      notBehindTheEnd(promise);
      overItself(promise);
      ofLikeLengths(promise);
      inTheFullText(promise);
      noSuchPlace(promise);
      noPlaceInTheEmptyText(promise);
      whatOutside(promise);
      placeAheadOfWhat(promise);
      asksChangeNothing(promise);
    }
    noMatch(LONGEST);
    noMatch(CHAINED);
    chained();
    front();
    DUE.end(LONGEST, FRONT);
  }

  /** The call of a promise; FRONT's is of its last, which is THE LONGEST. */
  private static int ask(int promise, Calls x, int place, int what) {
    if (promise == LONGEST) {
      return x.longest(place, what);
    }
    return promise == CHAINED ? x.chained(place, what) : x.front(place, x.front(place, -1, what) - 1, what);
  }

  private static void dueMatch(int promise, Calls x, int place, int length, int distance) {
    DUE.due(ask(promise, x, place, 0), length);
    DUE.due(ask(promise, x, place, 1), distance);
  }

  /** FRONT tells by its number that there is none, the others by 0. */
  private static void dueNone(int promise, Calls x, int place) {
    if (promise == FRONT) {
      DUE.due(x.front(place, -1, 0), 0);
      DUE.due(x.front(place, -1, 1), 0);
      DUE.due(x.front(place, 0, 0), -1);
      DUE.due(x.front(place, 0, 1), -1);
    } else {
      DUE.due(ask(promise, x, place, 0), 0);
      DUE.due(ask(promise, x, place, 1), 0);
    }
  }

  // ---- the terms

  private static void lengthTooSmall(int promise) {
    DUE.sentence(promise, "has a LENGTH L, 3 to 40");
    Calls x = new Calls().text("a1ab2abc3abcd4abcd");
    dueNone(promise, x, 2);
    dueNone(promise, x, 5);
    dueMatch(promise, x, 9, 3, 4);
    dueMatch(promise, x, 14, 4, 5);
  }

  private static void lengthTooLarge(int promise) {
    DUE.sentence(promise, "has a LENGTH L, 3 to 40");
    for (int n = 39; n <= 42; n++) {
      Calls x = new Calls();
      for (int copy = 0; copy < 2; copy++) {
        for (int i = 0; i < n; i++) {
          x.add(100 + i);
        }
      }
      dueMatch(promise, x, n, Math.min(40, n), n);
      dueMatch(promise, x, n + 1, Math.min(40, n - 1), n);
    }
  }

  private static void distanceOne(int promise) {
    DUE.sentence(promise, "a DISTANCE D, 1 to SPAN");
    Calls x = new Calls(1, 1).text("aaaa");
    dueNone(promise, x, 0);
    dueMatch(promise, x, 1, 3, 1);
  }

  private static void distanceUpToSpan(int promise) {
    DUE.sentence(promise, "a DISTANCE D, 1 to SPAN");
    int[] spans = {3, 4, 10, 100, 200};
    for (int span : spans) {
      for (int distance = span - 1; distance <= span + 1; distance++) {
        Calls x = new Calls(span, 64).text("ab");
        for (int i = 2; i < distance; i++) {
          x.add(i % 2 == 0 ? 201 : 202);
        }
        int place = x.text("ab").size(0) - 2;
        x.add(201);
        if (distance > span || distance == 2) {
          dueNone(promise, x, place);
        } else {
          dueMatch(promise, x, place, 3, distance);
        }
      }
    }
  }

  private static void distanceUpToTheFirstByte(int promise) {
    DUE.sentence(promise, "not more than p and the bytes of THE DICTIONARY together");
    Calls x = new Calls().text("abcabc");
    dueNone(promise, x, 0);
    dueNone(promise, x, 1);
    dueNone(promise, x, 2);
    dueMatch(promise, x, 3, 3, 3);
    Calls zeros = new Calls().same(4, 0);
    dueNone(promise, zeros, 0);
    dueMatch(promise, zeros, 1, 3, 1);
  }

  private static void distanceUpToTheDictionary(int promise) {
    DUE.sentence(promise, "not more than p and the bytes of THE DICTIONARY together");
    dueMatch(promise, new Calls().ahead("abc").text("abc"), 0, 3, 3);
    dueNone(promise, new Calls().ahead("bc").text("abc"), 0);
    // A dictionary of 60 bytes, then of 61 bytes, the first of which is left out.
    Calls whole = new Calls().text("abc").same(57, 1);
    whole.dictionary();
    dueMatch(promise, whole.text("abc"), 0, 3, 60);
    dueMatch(promise, whole.text("-abc"), 0, 3, 60);
    dueMatch(promise, whole, 4, 3, 4);
    Calls cut = new Calls().text("abc").same(58, 1);
    cut.dictionary();
    dueNone(promise, cut.text("abc"), 0);
    // Bytes before the first, which nobody has told, are not zeros.
    dueNone(promise, new Calls().same(3, 0), 0);
    dueNone(promise, new Calls().ahead("a").same(3, 0), 0);
  }

  private static void distanceNotIntoOlderDictionaries(int promise) {
    DUE.sentence(promise, "not more than p and the bytes of THE DICTIONARY together");
    dueNone(promise, new Calls().ahead("abcxyz").ahead("xyz").text("abc"), 0);
    dueMatch(promise, new Calls().ahead("abcxyz").ahead("xyz").text("xyz"), 0, 3, 3);
    Calls none = new Calls().ahead("abcxyz").ahead("");
    dueNone(promise, none.text("xyz"), 0);
  }

  /** The bytes behind the end are those of a text that has been, and would go on the match. */
  private static void notBehindTheEnd(int promise) {
    DUE.sentence(promise, "none behind the end of THE TEXT");
    for (int n = 6; n <= 10; n++) {
      Calls x = new Calls().text("abcdeabcdeabcde");
      x.clear();
      x.text("abcdeabcde".substring(0, n));
      if (n < 8) {
        dueNone(promise, x, 5);
      } else {
        dueMatch(promise, x, 5, n - 5, 5);
      }
      dueNone(promise, x, n - 1);
      dueNone(promise, x, n - 2);
    }
  }

  private static void overItself(int promise) {
    DUE.sentence(promise, "is the one D before it (which may be one of them)");
    Calls x = new Calls().text("aaaaaaaa");
    dueMatch(promise, x, 1, 7, 1);
    dueMatch(promise, x, 5, 3, 1);
    dueNone(promise, x, 6);
    dueMatch(promise, new Calls().text("ababababab"), 2, 8, 2);
    dueMatch(promise, new Calls().same(60, 7), 1, 40, 1);
    // From the dictionary on into the text, and over itself.
    dueMatch(promise, new Calls().ahead("qrs").text("rsrsr"), 0, 5, 2);
    dueMatch(promise, new Calls().ahead("..abcd").text("abcdab"), 0, 6, 4);
  }

  private static void ofLikeLengths(int promise) {
    String words = promise == FRONT ? "as far as it is greater than that of each lesser DISTANCE"
        : "the greatest LENGTH, of like ones the least DISTANCE";
    DUE.sentence(promise, words);
    dueMatch(promise, new Calls().text("abc1abc2abc3abc"), 12, 3, 4);
    dueMatch(promise, new Calls().text("abcd1abcd2abc3abcd"), 14, 4, 9);
    dueMatch(promise, new Calls().same(50, 3), 5, 40, 1);
    dueMatch(promise, new Calls().ahead("abc1").text("abc2abc"), 4, 3, 4);
  }

  private static void inTheFullText(int promise) {
    DUE.sentence(promise, "THE TEXT has at most 300 bytes");
    Calls x = new Calls();
    x.fill(60, 1, 0);
    x.dictionary();
    x.fill(200, 1, 0);
    x.fill(100, 1, 0);
    dueMatch(promise, x, 0, 40, 60);
    dueMatch(promise, x, 200, 40, 200);
    dueMatch(promise, x, 260, 40, 200);
    dueMatch(promise, x, 261, 39, 200);
    dueMatch(promise, x, 297, 3, 200);
    dueNone(promise, x, 298);
    dueNone(promise, x, 299);
  }

  // ---- what is refused

  private static int askPlain(int promise, Calls x, int place, int what) {
    return promise == FRONT ? x.front(place, -1, what) : ask(promise, x, place, what);
  }

  private static void noSuchPlace(int promise) {
    DUE.sentence(promise, "-1 there is no such place");
    int[] places = {-1, -2, -3, -4, 7, 8, 300, 360, MIN, MAX, MAX - 1};
    Calls x = Calls.small();
    for (int what = 0; what <= 1; what++) {
      for (int place : places) {
        DUE.due(askPlain(promise, x, place, what), -1);
      }
      DUE.holds("place 0 is one", askPlain(promise, x, 0, what) > 0);
      DUE.due(askPlain(promise, x, 6, what), 0);
    }
    Calls full = new Calls();
    full.fill(300, 1, 0);
    DUE.due(askPlain(promise, full, 299, 0), 0);
    DUE.due(askPlain(promise, full, 300, 0), -1);
  }

  private static void noPlaceInTheEmptyText(int promise) {
    DUE.sentence(promise, "-1 there is no such place");
    DUE.due(askPlain(promise, new Calls(), 0, 0), -1);
    DUE.due(askPlain(promise, new Calls().ahead("abc"), 0, 0), -1);
    DUE.due(askPlain(promise, new Calls().ahead("abc"), -3, 0), -1);
    Calls x = new Calls().text("abcabc");
    x.clear();
    DUE.due(askPlain(promise, x, 3, 0), -1);
    DUE.due(askPlain(promise, x, 0, 1), -1);
    x.add('a');
    DUE.due(askPlain(promise, x, 0, 0), 0);
    DUE.due(askPlain(promise, x, 1, 0), -1);
  }

  private static void whatOutside(int promise) {
    DUE.sentence(promise, "-2 outside its bounds");
    int[] whats = {-1, 2, 3, MIN, MAX};
    Calls x = Calls.small();
    for (int what : whats) {
      DUE.due(askPlain(promise, x, 0, what), -2);
      // Where there is no match, too.
      DUE.due(askPlain(promise, x, 5, what), -2);
      DUE.due(askPlain(promise, x, 6, what), -2);
    }
  }

  private static void placeAheadOfWhat(int promise) {
    DUE.sentence(promise, promise == FRONT ? "-1 (also: no such k); -2 what" : promise == CHAINED ? "Likewise" : "-1; -2.");
    Calls x = Calls.small();
    int[] places = {-1, 7, MIN, MAX};
    for (int place : places) {
      DUE.due(askPlain(promise, x, place, -1), -1);
      DUE.due(askPlain(promise, x, place, 2), -1);
    }
    DUE.due(askPlain(promise, new Calls(), 0, 2), -1);
  }

  private static void asksChangeNothing(int promise) {
    DUE.sentence(promise, "REFUSALS change nothing");
    Calls x = Calls.small();
    askPlain(promise, x, -1, 0);
    askPlain(promise, x, 7, 0);
    askPlain(promise, x, 0, 2);
    askPlain(promise, x, 0, 0);
    askPlain(promise, x, 6, 1);
    DUE.same("the state", x.state(), Calls.small().state());
  }

  private static void noMatch(int promise) {
    DUE.sentence(promise, promise == LONGEST ? "0: there is no MATCH" : "Likewise");
    Calls x = new Calls().text("abcabcd");
    int[] places = {0, 1, 2, 4, 5, 6};
    for (int place : places) {
      dueNone(promise, x, place);
    }
    dueMatch(promise, x, 3, 3, 3);
    // What was found before is not told again.
    dueNone(promise, x, 6);
    dueNone(promise, new Calls().text("a"), 0);
  }

  // ---- promise 9

  private static void chained() {
    chainedStopsAtDepth();
    chainedCountsMatchesAlone();
    chainedWithinSpan();
    chainedWithFewerThanDepth();
    chainedOverTheDictionary();
    chainedOf64();
  }

  private static final String FALLING = "abcdef1abcde2abcd3abc4abcdef";

  private static void chainedStopsAtDepth() {
    DUE.sentence(CHAINED, "the nearest DEPTH DISTANCES at which there is a MATCH");
    int[][] want = {{1, 3, 4}, {2, 4, 9}, {3, 5, 15}, {4, 6, 22}};
    for (int[] w : want) {
      dueMatch(CHAINED, new Calls(300, w[0]).text(FALLING), 22, w[1], w[2]);
    }
    // Of two steps the first is the longer one.
    dueMatch(CHAINED, new Calls(300, 2).text("abcdef1abc2abcde3abcdef"), 17, 5, 6);
  }

  /** The two bytes ab at distance 3 are no MATCH and no step. */
  private static void chainedCountsMatchesAlone() {
    DUE.sentence(CHAINED, "at which there is a MATCH");
    dueMatch(CHAINED, new Calls(300, 1).text("abc1ab2abc"), 7, 3, 7);
    dueMatch(CHAINED, new Calls(300, 2).text("abcd1abc2ab3a4abcd"), 14, 4, 14);
    dueMatch(CHAINED, new Calls(300, 1).text("abcd1abc2ab3a4abcd"), 14, 3, 9);
  }

  private static void chainedWithinSpan() {
    DUE.sentence(CHAINED, "a DISTANCE D, 1 to SPAN");
    dueMatch(CHAINED, new Calls(22, 64).text(FALLING), 22, 6, 22);
    dueMatch(CHAINED, new Calls(21, 64).text(FALLING), 22, 5, 15);
    dueMatch(CHAINED, new Calls(4, 64).text(FALLING), 22, 3, 4);
    dueNone(CHAINED, new Calls(3, 64).text(FALLING), 22);
  }

  private static void chainedWithFewerThanDepth() {
    DUE.sentence(CHAINED, "the nearest DEPTH DISTANCES at which there is a MATCH");
    dueMatch(CHAINED, new Calls(300, 5).text(FALLING), 22, 6, 22);
    dueMatch(CHAINED, new Calls(300, 64).text(FALLING), 22, 6, 22);
    dueNone(CHAINED, new Calls(300, 64).text(FALLING), 0);
  }

  private static void chainedOverTheDictionary() {
    DUE.sentence(CHAINED, "the bytes of THE DICTIONARY together");
    dueMatch(CHAINED, new Calls(300, 2).ahead("abcd1").text("abc2abcd"), 4, 4, 9);
    dueMatch(CHAINED, new Calls(300, 1).ahead("abcd1").text("abc2abcd"), 4, 3, 4);
  }

  /** In a text of like bytes each distance is a step. */
  private static void chainedOf64() {
    DUE.sentence(CHAINED, "DEPTH (1 to 64)");
    for (int run = 66; run <= 67; run++) {
      // x, then so many a's, then aaax: x comes behind three a's only at the distance of the run.
      Calls x = new Calls(300, 64).text("aaax").same(run, 'a').text("x");
      int place = x.size(0) - 4;
      DUE.due(x.longest(place, 0), 4);
      DUE.due(x.longest(place, 1), run + 1);
      DUE.due(x.chained(place, 0), run == 66 ? 4 : 3);
      DUE.due(x.chained(place, 1), run == 66 ? 67 : 1);
    }
  }

  // ---- promise 10

  private static void front() {
    frontByRisingDistances();
    frontOfLikeLengths();
    frontOfFortyEndsIt();
    frontOfNone();
    frontOfMany();
    frontNumberWithEachWhat();
    frontWithoutSuchK();
    frontWhatOutside();
    frontKAheadOfWhat();
    frontRefusedChangesNothing();
    frontWithinSpanNotDepth();
  }

  private static void dueFront(Calls x, int place, int[]... want) {
    DUE.due(x.front(place, -1, 0), want.length);
    for (int k = 0; k < want.length; k++) {
      DUE.due(x.front(place, k, 0), want[k][0]);
      DUE.due(x.front(place, k, 1), want[k][1]);
    }
    DUE.due(x.front(place, want.length, 0), -1);
  }

  private static int[] match(int length, int distance) {
    return new int[] {length, distance};
  }

  private static void frontByRisingDistances() {
    DUE.sentence(FRONT, "by rising DISTANCES");
    Calls x = new Calls(300, 1).text(FALLING);
    dueFront(x, 22, match(3, 4), match(4, 9), match(5, 15), match(6, 22));
    // Lesser ones behind a greater one are left out.
    dueFront(new Calls().text("abc1abcde2abcd3abcde"), 15, match(4, 5), match(5, 11));
    dueFront(new Calls().text("abc1abcd2abcde3abcde"), 15, match(5, 6));
  }

  private static void frontOfLikeLengths() {
    DUE.sentence(FRONT, "as far as it is greater than that of each lesser DISTANCE");
    dueFront(new Calls().text("abcdef1abcde2abcde3abc4abcdef"), 23, match(3, 4), match(5, 10), match(6, 23));
    dueFront(new Calls().text("abc1abc2abc"), 8, match(3, 4));
    dueFront(new Calls().text("aaaaaaaa"), 4, match(4, 1));
  }

  private static void frontOfFortyEndsIt() {
    DUE.sentence(FRONT, "of each DISTANCE its greatest LENGTH");
    // 45, then 41, then 45 bytes alike: both distances have 40.
    Calls x = new Calls();
    int[] lengths = {45, 41, 45};
    for (int length : lengths) {
      for (int i = 0; i < length; i++) {
        x.add(i);
      }
      x.add(200 + length);
    }
    dueFront(x, 88, match(40, 42));
    dueFront(x, 90, match(39, 42), match(40, 88));
    dueFront(x, 93, match(36, 42), match(40, 88));
  }

  private static void frontOfNone() {
    DUE.sentence(FRONT, "How many FRONT has at a place (k = -1)");
    Calls x = new Calls().text("abcabc");
    dueFront(x, 0);
    dueFront(x, 3, match(3, 3));
    dueFront(x, 4);
    dueFront(x, 5);
  }

  /** Distances whose lengths are 3, 4, 5 ..: as many as the text has room for. */
  private static void frontOfMany() {
    DUE.sentence(FRONT, "How many FRONT has at a place (k = -1)");
    Calls x = new Calls();
    for (int length = 20; length >= 3; length--) {
      for (int i = 0; i < length; i++) {
        x.add(i);
      }
      x.add(100 + length);
    }
    int place = x.size(0);
    for (int i = 0; i < 20; i++) {
      x.add(i);
    }
    int[][] want = new int[18][];
    int distance = 0;
    for (int k = 0; k < 18; k++) {
      distance += k + 4;
      want[k] = match(k + 3, distance);
    }
    dueFront(x, place, want);
  }

  private static void frontNumberWithEachWhat() {
    DUE.sentence(FRONT, "How many FRONT has at a place (k = -1)");
    Calls x = new Calls().text(FALLING);
    DUE.due(x.front(22, -1, 0), 4);
    DUE.due(x.front(22, -1, 1), 4);
    DUE.due(x.front(0, -1, 1), 0);
  }

  private static void frontWithoutSuchK() {
    DUE.sentence(FRONT, "-1 (also: no such k)");
    Calls x = new Calls().text(FALLING);
    int[] ks = {-2, -3, 4, 5, 37, 38, 39, 300, MIN, MAX};
    for (int what = 0; what <= 1; what++) {
      for (int k : ks) {
        DUE.due(x.front(22, k, what), -1);
        DUE.due(x.front(0, k, what), -1);
      }
      DUE.due(x.front(0, 0, what), -1);
      DUE.holds("k 0 is one", x.front(22, 0, what) > 0);
      DUE.holds("k 3 is one", x.front(22, 3, what) > 0);
      // Those of the place asked before are not told at another.
      DUE.due(x.front(0, 0, what), -1);
      DUE.due(x.front(27, 3, what), -1);
    }
  }

  private static void frontWhatOutside() {
    DUE.sentence(FRONT, "-2 what (with k = -1, too)");
    Calls x = new Calls().text(FALLING);
    int[] whats = {-1, 2, 3, MIN, MAX};
    for (int what : whats) {
      DUE.due(x.front(22, -1, what), -2);
      DUE.due(x.front(22, 0, what), -2);
      DUE.due(x.front(22, 3, what), -2);
      DUE.due(x.front(0, -1, what), -2);
    }
  }

  private static void frontKAheadOfWhat() {
    DUE.sentence(FRONT, "-1 (also: no such k); -2 what");
    Calls x = new Calls().text(FALLING);
    int[] whats = {-1, 2, MIN, MAX};
    for (int what : whats) {
      DUE.due(x.front(22, 4, what), -1);
      DUE.due(x.front(22, -2, what), -1);
      DUE.due(x.front(0, 0, what), -1);
      DUE.due(x.front(28, 0, what), -1);
    }
  }

  private static void frontRefusedChangesNothing() {
    DUE.sentence(FRONT, "REFUSALS change nothing");
    Calls x = Calls.small();
    DUE.due(x.front(0, 1, 0), -1);
    DUE.due(x.front(0, -2, 0), -1);
    DUE.due(x.front(0, 0, 2), -2);
    DUE.due(x.front(7, 0, 0), -1);
    DUE.same("the state", x.state(), Calls.small().state());
  }

  private static void frontWithinSpanNotDepth() {
    DUE.sentence(FRONT, "a DISTANCE D, 1 to SPAN");
    dueFront(new Calls(21, 1).text(FALLING), 22, match(3, 4), match(4, 9), match(5, 15));
    dueFront(new Calls(22, 1).text(FALLING), 22, match(3, 4), match(4, 9), match(5, 15), match(6, 22));
    dueFront(new Calls(3, 64).text(FALLING), 22);
  }
}
