/** Promises 8 to 10: longest, chained, front. */
public final class MatchTest {
  private static final Due DUE = new Due("MatchTest");
  private static final int MIN = Integer.MIN_VALUE;
  private static final int MAX = Integer.MAX_VALUE;

  public static void main(String[] args) {
    lengths();
    overlapping();
    likeLengthsLeastDistance();
    overTheDictionary();
    chainedStopsAtDepth();
    front();
    refusals();
    DUE.end();
  }

  private static MatchFinders of(int span, int depth, String text) {
    MatchFinders x = new MatchFinders(span, depth);
    Due.addAll(x, text);
    return x;
  }

  private static void dueMatch(String what, MatchFinders x, int place, int length, int distance) {
    DUE.due(what + " longest(" + place + ", 0)", x.longest(place, 0), length);
    DUE.due(what + " longest(" + place + ", 1)", x.longest(place, 1), distance);
  }

  private static void dueChained(String what, MatchFinders x, int place, int length, int distance) {
    DUE.due(what + " chained(" + place + ", 0)", x.chained(place, 0), length);
    DUE.due(what + " chained(" + place + ", 1)", x.chained(place, 1), distance);
  }

  private static void lengths() {
    MatchFinders x = of(300, 64, "ab.ab-abc.abc-");
    dueMatch("two bytes are none", x, 3, 0, 0);
    dueMatch("three are one", x, 10, 3, 4);
    dueMatch("two before the end are none", x, 12, 0, 0);
    dueChained("two bytes are none", x, 3, 0, 0);
    dueChained("three are one", x, 10, 3, 4);
    for (int n = 38; n <= 43; n++) {
      MatchFinders y = new MatchFinders(300, 64);
      for (int copy = 0; copy < 2; copy++) {
        for (int i = 0; i < n; i++) {
          y.add(100 + i);
        }
      }
      dueMatch("40 at most", y, n, Math.min(40, n), n);
      dueChained("40 at most", y, n, Math.min(40, n), n);
    }
  }

  private static void overlapping() {
    MatchFinders x = of(300, 64, "aaaaaaaa");
    dueMatch("none before", x, 0, 0, 0);
    dueMatch("over itself", x, 1, 7, 1);
    dueMatch("over itself", x, 5, 3, 1);
    dueMatch("end of the text", x, 6, 0, 0);
    dueMatch("end of the text", x, 7, 0, 0);
    dueMatch("by two", of(300, 64, "ababababab"), 2, 8, 2);
    dueMatch("span too short", of(1, 64, "ababababab"), 2, 0, 0);
    dueMatch("span just enough", of(2, 64, "ababababab"), 2, 8, 2);
  }

  private static void likeLengthsLeastDistance() {
    MatchFinders x = of(300, 64, "abc1abc2abc3abc");
    dueMatch("of like ones the least", x, 12, 3, 4);
    dueChained("of like ones the least", x, 12, 3, 4);
    MatchFinders y = of(300, 64, "abcd1abcd2abc3abcd");
    dueMatch("of like ones the least", y, 14, 4, 9);
    dueChained("of like ones the least", y, 14, 4, 9);
  }

  private static void overTheDictionary() {
    MatchFinders x = of(300, 64, "..abcd");
    x.dictionary();
    Due.addAll(x, "abcdab");
    dueMatch("all of it ahead, then over itself", x, 0, 6, 4);
    dueChained("all of it ahead, then over itself", x, 0, 6, 4);
    MatchFinders y = of(300, 64, "qrs");
    y.dictionary();
    Due.addAll(y, "qrs");
    dueMatch("the farthest byte of the dictionary", y, 0, 3, 3);
    y.clear();
    Due.addAll(y, "rsrsr");
    dueMatch("from the dictionary on into the text", y, 0, 5, 2);
  }

  private static void chainedStopsAtDepth() {
    String text = "abcdef1abcde2abcd3abc4abcdef";
    int[][] want = {{1, 3, 4}, {2, 4, 9}, {3, 5, 15}, {4, 6, 22}, {5, 6, 22}};
    for (int[] w : want) {
      dueChained("depth " + w[0], of(300, w[0], text), 22, w[1], w[2]);
    }
    dueMatch("all of it", of(300, 1, text), 22, 6, 22);
    dueMatch("within the span", of(21, 1, text), 22, 5, 15);
    dueChained("within the span", of(21, 64, text), 22, 5, 15);
    // The two bytes ab at distance 4 are no match and are not counted.
    dueChained("what is no match is no step", of(300, 1, "abc1ab2abc"), 7, 3, 7);
  }

  private static void front() {
    MatchFinders x = of(300, 1, "abcdef1abcde2abcde3abc4abcdef");
    int[][] want = {{3, 4}, {5, 10}, {6, 23}};
    for (int what = 0; what <= 1; what++) {
      DUE.due("front(23, -1, " + what + ")", x.front(23, -1, what), 3);
      for (int k = 0; k < 3; k++) {
        DUE.due("front(23, " + k + ", " + what + ")", x.front(23, k, what), want[k][what]);
      }
    }
    DUE.due("front(0, -1, 0)", x.front(0, -1, 0), 0);
    DUE.due("front(28, -1, 1)", x.front(28, -1, 1), 0);
    DUE.due("front(0, 0, 0)", x.front(0, 0, 0), -1);
    fullFront();
  }

  /** Distances whose lengths are 3, 4, 5 ..: as many as the text has room for. */
  private static void fullFront() {
    MatchFinders x = new MatchFinders(300, 64);
    for (int length = 20; length >= 3; length--) {
      for (int i = 0; i < length; i++) {
        x.add(i);
      }
      x.add(100 + length);
    }
    int place = x.size(0);
    for (int i = 0; i < 20; i++) {
      x.add(i);
    }
    DUE.due("front of many", x.front(place, -1, 0), 18);
    int distance = 0;
    for (int k = 0; k < 18; k++) {
      distance += k + 4;
      DUE.due("front of many, length " + k, x.front(place, k, 0), k + 3);
      DUE.due("front of many, distance " + k, x.front(place, k, 1), distance);
    }
  }

  private static void refusals() {
    MatchFinders x = of(300, 64, "abcabcabc");
    x.dictionary();
    Due.addAll(x, "abcabc");
    int[] places = {-1, 6, 300, MIN, MAX};
    int[] whats = {-1, 2, MIN, MAX};
    for (int place : places) {
      DUE.due("longest(" + place + ", 0)", x.longest(place, 0), -1);
      DUE.due("chained(" + place + ", 0)", x.chained(place, 0), -1);
      DUE.due("front(" + place + ", -1, 0)", x.front(place, -1, 0), -1);
      DUE.due("longest(" + place + ", 9)", x.longest(place, 9), -1);
      DUE.due("chained(" + place + ", 9)", x.chained(place, 9), -1);
      DUE.due("front(" + place + ", 0, 9)", x.front(place, 0, 9), -1);
    }
    for (int what : whats) {
      DUE.due("longest(0, " + what + ")", x.longest(0, what), -2);
      DUE.due("chained(0, " + what + ")", x.chained(0, what), -2);
      DUE.due("front(0, 0, " + what + ")", x.front(0, 0, what), -2);
      DUE.due("front(0, -1, " + what + ")", x.front(0, -1, what), -2);
      DUE.due("front(0, 1, " + what + ")", x.front(0, 1, what), -1);
      DUE.due("longest without a match", x.longest(5, what), -2);
      DUE.due("chained without a match", x.chained(5, what), -2);
    }
    int[] ks = {-2, 1, 38, MIN, MAX};
    for (int k : ks) {
      DUE.due("front(0, " + k + ", 0)", x.front(0, k, 0), -1);
    }
    DUE.due("front(0, -1, 0)", x.front(0, -1, 0), 1);
  }
}
