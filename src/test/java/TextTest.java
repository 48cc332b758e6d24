/** Promises 1 to 7: a new object, add, fill, clear, dictionary, size, octet. */
public final class TextTest {
  private static final Due DUE = new Due("TextTest");
  private static final int MIN = Integer.MIN_VALUE;
  private static final int MAX = Integer.MAX_VALUE;

  public static void main(String[] args) {
    newObject();
    spanIsTheNearest();
    depthIsTheNearest();
    add();
    fillOctetsAndThree();
    fillEcho();
    fillRefusals();
    clear();
    dictionary();
    dictionaryAnew();
    size();
    octet();
    DUE.end();
  }

  private static void newObject() {
    int[][] arguments = {{1, 1}, {300, 64}, {0, 0}, {MIN, MIN}, {MAX, MAX}, {MIN, MAX}};
    for (int[] a : arguments) {
      MatchFinders x = new MatchFinders(a[0], a[1]);
      DUE.due("new size(0)", x.size(0), 0);
      DUE.due("new size(1)", x.size(1), 0);
      DUE.due("new octet(0)", x.octet(0), -1);
      DUE.due("new octet(-1)", x.octet(-1), -1);
      DUE.due("new pieces(0)", x.pieces(0), 0);
      DUE.due("new bits(3, 1)", x.bits(3, 1), 0);
    }
  }

  /** abc, then fresh bytes, then abc at a distance, its place reached over a dictionary. */
  private static MatchFinders abcTwice(int span, int distance) {
    MatchFinders x = new MatchFinders(span, 1);
    String abc = "abc";
    for (int i = 0; i < 60; i++) {
      x.add(i < 3 ? abc.charAt(i) : 200);
    }
    x.dictionary();
    for (int i = 60; i < distance; i++) {
      x.add(i % 2 == 0 ? 201 : 202);
    }
    Due.addAll(x, abc);
    return x;
  }

  private static void spanIsTheNearest() {
    DUE.due("span 300, distance 300", abcTwice(300, 300).longest(240, 1), 300);
    DUE.due("span 299, distance 300", abcTwice(299, 300).longest(240, 1), 0);
    DUE.due("span 301, distance 300", abcTwice(301, 300).longest(240, 1), 300);
    DUE.due("span 301, distance 301", abcTwice(301, 301).longest(241, 1), 0);
    DUE.due("span MAX, distance 300", abcTwice(MAX, 300).longest(240, 0), 3);
    DUE.due("span MAX, distance 301", abcTwice(MAX, 301).longest(241, 0), 0);
    int[] least = {1, 0, -1, MIN};
    for (int span : least) {
      MatchFinders x = new MatchFinders(span, 1);
      Due.addAll(x, "aaaaababab");
      DUE.due("least span, distance 1", x.longest(1, 1), 1);
      DUE.due("least span, distance 2", x.longest(6, 0), 0);
    }
  }

  /** abcd, then a number of other abc's, then abcd: the first is the farthest of that many and one. */
  private static MatchFinders abcdBehind(int depth, int others) {
    MatchFinders x = new MatchFinders(300, depth);
    Due.addAll(x, "abcd");
    for (int i = 0; i < others; i++) {
      Due.addAll(x, "abc");
      x.add(128 + i);
    }
    Due.addAll(x, "abcd");
    return x;
  }

  private static void depthIsTheNearest() {
    int[] depths = {64, 65, MAX};
    for (int depth : depths) {
      DUE.due("most depth, 63 others", abcdBehind(depth, 63).chained(256, 0), 4);
      DUE.due("most depth, 64 others", abcdBehind(depth, 64).chained(260, 0), 3);
    }
    DUE.due("depth 63, 63 others", abcdBehind(63, 63).chained(256, 0), 3);
    int[] least = {1, 0, -7, MIN};
    for (int depth : least) {
      DUE.due("least depth, none other", abcdBehind(depth, 0).chained(4, 0), 4);
      DUE.due("least depth, one other", abcdBehind(depth, 1).chained(8, 0), 3);
    }
    DUE.due("depth 2, one other", abcdBehind(2, 1).chained(8, 0), 4);
  }

  private static void add() {
    MatchFinders x = new MatchFinders(10, 2);
    DUE.due("add(0)", x.add(0), 1);
    DUE.due("add(255)", x.add(255), 2);
    int[] outside = {-1, 256, MIN, MAX};
    for (int b : outside) {
      DUE.due("add outside", x.add(b), -2);
    }
    DUE.due("size after refusals", x.size(0), 2);
    DUE.due("octet(0)", x.octet(0), 0);
    DUE.due("octet(1)", x.octet(1), 255);
    for (int i = 3; i <= 300; i++) {
      DUE.due("add " + i, x.add(i % 256), i);
    }
    DUE.due("add, no room", x.add(1), -4);
    DUE.due("add outside, no room", x.add(256), -2);
    DUE.due("size when full", x.size(0), 300);
    DUE.due("the last", x.octet(299), 300 % 256);
    DUE.due("dictionary of the full", x.dictionary(), 60);
    for (int i = 1; i <= 300; i++) {
      DUE.due("add behind a dictionary " + i, x.add(7), i);
    }
    DUE.due("add, no room behind a dictionary", x.add(7), -4);
    DUE.due("the last", x.octet(299), 7);
  }

  private static void dueBytes(String what, MatchFinders x, int... want) {
    for (int i = 0; i < want.length; i++) {
      DUE.due(what + " octet(" + i + ")", x.octet(i), want[i]);
    }
    DUE.due(what + " size(0)", x.size(0), want.length);
  }

  private static void fillOctetsAndThree() {
    // Seed 1: x is 1103527590, 2524885223, 662824084, 3295386429, so z is 16838, 38526, 10113, 50283.
    MatchFinders x = new MatchFinders(10, 2);
    DUE.due("fill(4, 1, 0)", x.fill(4, 1, 0), 4);
    dueBytes("fill(4, 1, 0)", x, 198, 126, 129, 107);
    x.clear();
    DUE.due("fill(4, 1, 1)", x.fill(4, 1, 1), 4);
    dueBytes("fill(4, 1, 1)", x, 2, 0, 0, 0);
    DUE.due("fill(1, 0, 0)", x.fill(1, 0, 0), 5);
    dueBytes("fill(1, 0, 0)", x, 2, 0, 0, 0, 0);
    // Seed -1: x is -1103502900, or 3191464396, so z is 48697, which is 57 behind 190 times 256.
    DUE.due("fill(1, -1, 0)", x.fill(1, -1, 0), 6);
    dueBytes("fill(1, -1, 0)", x, 2, 0, 0, 0, 0, 57);
  }

  private static void fillEcho() {
    // Seed 1: d is 1; z % 8 is 6, 6, 1, 3, so each byte but the first is the one before.
    MatchFinders x = new MatchFinders(10, 2);
    DUE.due("fill(4, 1, 2)", x.fill(4, 1, 2), 4);
    dueBytes("fill(4, 1, 2), none before", x, 2, 2, 2, 2);
    x.clear();
    x.add(77);
    DUE.due("fill(4, 1, 2)", x.fill(4, 1, 2), 5);
    dueBytes("fill(4, 1, 2), one before", x, 77, 77, 77, 77, 77);
    x.dictionary();
    DUE.due("fill(2, 1, 2)", x.fill(2, 1, 2), 2);
    dueBytes("fill(2, 1, 2), a dictionary before", x, 2, 2);
    // Seed 0: z is 0 first, so z % 4 comes though there is a byte before.
    x.clear();
    x.add(99);
    x.fill(1, 0, 2);
    dueBytes("fill(1, 0, 2)", x, 99, 0);
    // Seed -1: d is 32 and z % 8 is 1: the byte 32 before if there is one, else z % 4, 1.
    for (int before = 31; before <= 33; before++) {
      x.clear();
      for (int i = 0; i < before; i++) {
        x.add(100 + i);
      }
      DUE.due("fill(1, -1, 2)", x.fill(1, -1, 2), before + 1);
      DUE.due("fill(1, -1, 2) behind " + before, x.octet(before), before < 32 ? 1 : 68 + before);
    }
  }

  private static void fillRefusals() {
    MatchFinders x = new MatchFinders(10, 2);
    int[][] outside = {{0, 0}, {-1, 0}, {301, 0}, {MIN, 0}, {MAX, 0}, {1, -1}, {1, 3}, {1, MIN}, {1, MAX}};
    for (int[] a : outside) {
      DUE.due("fill(" + a[0] + ", 5, " + a[1] + ")", x.fill(a[0], 5, a[1]), -2);
    }
    DUE.due("nothing has changed", x.size(0), 0);
    DUE.due("fill(300, 5, 1)", x.fill(300, 5, 1), 300);
    DUE.due("fill(1, 5, 1), no room", x.fill(1, 5, 1), -4);
    DUE.due("fill(1, 5, 3), no room", x.fill(1, 5, 3), -2);
    DUE.due("fill(301, 5, 1), no room", x.fill(301, 5, 1), -2);
    x.clear();
    x.add(1);
    DUE.due("fill(300, 5, 1) behind one", x.fill(300, 5, 1), -4);
    DUE.due("nothing has changed", x.size(0), 1);
    DUE.due("fill(299, 5, 1) behind one", x.fill(299, 5, 1), 300);
  }

  private static void clear() {
    MatchFinders x = new MatchFinders(10, 2);
    DUE.due("clear()", x.clear(), 0);
    Due.addAll(x, "abc");
    x.dictionary();
    Due.addAll(x, "abcab");
    DUE.due("pieces(0)", x.pieces(0), 1);
    DUE.due("clear()", x.clear(), 5);
    DUE.due("size(0)", x.size(0), 0);
    DUE.due("size(1) stays", x.size(1), 3);
    DUE.due("octet(-3) stays", x.octet(-3), 'a');
    DUE.due("octet(0)", x.octet(0), -1);
    DUE.due("pieces(0)", x.pieces(0), 0);
    DUE.due("clear() again", x.clear(), 0);
    DUE.due("add behind clear", x.add(9), 1);
  }

  private static void dictionary() {
    int[] sizes = {0, 1, 59, 60, 61, 120, 300};
    for (int n : sizes) {
      MatchFinders x = new MatchFinders(10, 2);
      for (int i = 0; i < n; i++) {
        x.add(i % 251);
      }
      int kept = Math.min(60, n);
      DUE.due("dictionary() of " + n, x.dictionary(), kept);
      DUE.due("size(0)", x.size(0), 0);
      DUE.due("size(1)", x.size(1), kept);
      for (int i = 1; i <= kept; i++) {
        DUE.due("octet(-" + i + ") of " + n, x.octet(-i), (n - i) % 251);
      }
      DUE.due("octet behind the last", x.octet(-kept - 1), -1);
    }
  }

  private static void dictionaryAnew() {
    MatchFinders x = new MatchFinders(10, 2);
    x.fill(60, 3, 0);
    x.dictionary();
    Due.addAll(x, "xyz");
    DUE.due("a lesser dictionary", x.dictionary(), 3);
    DUE.due("octet(-1)", x.octet(-1), 'z');
    DUE.due("octet(-3)", x.octet(-3), 'x');
    DUE.due("octet(-4)", x.octet(-4), -1);
    Due.addAll(x, "xyzxyz");
    DUE.due("a match with it", x.longest(0, 0), 6);
    DUE.due("a greater one", x.dictionary(), 6);
    DUE.due("octet(-6)", x.octet(-6), 'x');
    DUE.due("of an empty text", x.dictionary(), 0);
    DUE.due("size(1)", x.size(1), 0);
    Due.addAll(x, "xyz");
    DUE.due("no match any more", x.longest(0, 0), 0);
  }

  private static void size() {
    MatchFinders x = new MatchFinders(10, 2);
    x.fill(70, 3, 0);
    x.dictionary();
    x.fill(7, 3, 0);
    DUE.due("size(0)", x.size(0), 7);
    DUE.due("size(1)", x.size(1), 60);
    int[] outside = {-1, 2, MIN, MAX};
    for (int what : outside) {
      DUE.due("size(" + what + ")", x.size(what), -2);
    }
  }

  private static void octet() {
    MatchFinders x = new MatchFinders(10, 2);
    Due.addAll(x, "pqr");
    x.dictionary();
    Due.addAll(x, "st");
    int[][] want = {{0, 's'}, {1, 't'}, {2, -1}, {-1, 'r'}, {-2, 'q'}, {-3, 'p'}, {-4, -1},
        {300, -1}, {-60, -1}, {-61, -1}, {MIN, -1}, {MAX, -1}};
    for (int[] w : want) {
      DUE.due("octet(" + w[0] + ")", x.octet(w[0]), w[1]);
    }
  }
}
