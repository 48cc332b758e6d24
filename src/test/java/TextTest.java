/**
 * Promises 1 to 7: a new object, add, fill, clear, dictionary, size, octet. Each method tests the
 * sentence that it names, at its bounds and on both sides of them.
 */
public final class TextTest {
  private static final Due DUE = new Due("TextTest");
  private static final int MIN = Integer.MIN_VALUE;
  private static final int MAX = Integer.MAX_VALUE;

  public static void main(String[] args) {
    newObject();
    add();
    fillArguments();
    fillBytes();
    clear();
    dictionary();
    size();
    octet();
    DUE.end(1, 7);
  }

  // ---- promise 1

  private static void newObject() {
    spanTooSmall();
    spanTooLarge();
    spanAtItsBounds();
    depthTooSmall();
    depthTooLarge();
    depthAtItsBounds();
    toldOnce();
    noBytes();
    usedFor512Calls();
  }

  /** abc, then other bytes, then abc at a distance of 60 or more, which the dictionary lets be 300. */
  private static Calls abcTwice(int span, int distance) {
    Calls x = new Calls(span, 1);
    x.text("abc").same(57, 200);
    x.dictionary();
    for (int i = 60; i < distance; i++) {
      x.add(i % 2 == 0 ? 201 : 202);
    }
    return x.text("abc");
  }

  private static void dueDistance(int span, int distance, boolean found) {
    Calls x = abcTwice(span, distance);
    DUE.due(x.longest(distance - 60, 0), found ? 3 : 0);
    DUE.due(x.longest(distance - 60, 1), found ? distance : 0);
    DUE.due(x.chained(distance - 60, 1), found ? distance : 0);
    DUE.due(x.front(distance - 60, -1, 0), found ? 1 : 0);
  }

  /** At 1 the byte before comes again, at 6 the two before. */
  private static void dueShortSpan(int span, boolean two) {
    Calls x = new Calls(span, 1).text("aaaaababab");
    DUE.due(x.longest(1, 0), 4);
    DUE.due(x.longest(1, 1), 1);
    DUE.due(x.longest(6, 0), two ? 4 : 0);
    DUE.due(x.longest(6, 1), two ? 2 : 0);
  }

  private static void spanTooSmall() {
    DUE.sentence(1, "SPAN and DEPTH, the nearest that may be");
    int[] spans = {0, -1, -300, MIN};
    for (int span : spans) {
      dueShortSpan(span, false);
    }
  }

  private static void spanTooLarge() {
    DUE.sentence(1, "SPAN and DEPTH, the nearest that may be");
    int[] spans = {301, 360, MAX};
    for (int span : spans) {
      dueDistance(span, 300, true);
      dueDistance(span, 301, false);
    }
  }

  private static void spanAtItsBounds() {
    DUE.sentence(1, "SPAN (1 to 300)");
    dueShortSpan(1, false);
    dueShortSpan(2, true);
    dueDistance(299, 299, true);
    dueDistance(299, 300, false);
    dueDistance(300, 300, true);
    dueDistance(300, 301, false);
  }

  /** abcd, then a number of other abc's, then abcd: the first is the farthest of that many and one. */
  private static void dueSteps(int depth, int others, int length) {
    Calls x = new Calls(300, depth).text("abcd");
    for (int i = 0; i < others; i++) {
      x.text("abc").add(128 + i);
    }
    int place = x.text("abcd").size(0) - 4;
    DUE.due(x.chained(place, 0), length);
    DUE.due(x.chained(place, 1), length == 4 ? place : 4);
  }

  private static void depthTooSmall() {
    DUE.sentence(1, "SPAN and DEPTH, the nearest that may be");
    int[] depths = {0, -1, -64, MIN};
    for (int depth : depths) {
      dueSteps(depth, 0, 4);
      dueSteps(depth, 1, 3);
    }
  }

  private static void depthTooLarge() {
    DUE.sentence(1, "SPAN and DEPTH, the nearest that may be");
    int[] depths = {65, 300, MAX};
    for (int depth : depths) {
      dueSteps(depth, 63, 4);
      dueSteps(depth, 64, 3);
    }
  }

  private static void depthAtItsBounds() {
    DUE.sentence(1, "DEPTH (1 to 64)");
    int[] depths = {1, 2, 63, 64};
    for (int depth : depths) {
      dueSteps(depth, depth - 1, 4);
      dueSteps(depth, depth, 3);
    }
  }

  private static void toldOnce() {
    DUE.sentence(1, "are told once");
    Calls x = new Calls(8, 1).text("abcd").ahead("abcd").text("1234abcd");
    DUE.due(x.longest(4, 1), 8);
    x.clear();
    x.text("12345abcd");
    DUE.due(x.longest(5, 1), 0);
    x.clear();
    x.text("abcdabc").add('-');
    x.text("abcd");
    DUE.due(x.chained(8, 0), 3);
    DUE.due(x.longest(8, 0), 4);
  }

  private static void noBytes() {
    DUE.sentence(1, "no bytes");
    int[][] arguments = {{1, 1}, {300, 64}, {0, 0}, {MIN, MIN}, {MAX, MAX}, {MIN, MAX}, {MAX, MIN}};
    for (int[] a : arguments) {
      Calls x = new Calls(a[0], a[1]);
      DUE.due(x.size(0), 0);
      DUE.due(x.size(1), 0);
      DUE.due(x.octet(0), -1);
      DUE.due(x.octet(-1), -1);
      DUE.due(x.longest(0, 0), -1);
      DUE.due(x.chained(0, 0), -1);
      DUE.due(x.front(0, -1, 0), -1);
      DUE.due(x.pieces(0), 0);
      DUE.due(x.bits(3, 1), 0);
      DUE.due(x.share(0), Calls.THROWS);
      DUE.due(x.clear(), 0);
      DUE.due(x.dictionary(), 0);
    }
  }

  private static void usedFor512Calls() {
    DUE.sentence(1, "An object is used for at most 512 calls after it has been made");
    Calls x = new Calls(300, 64);
    for (int round = 0; round < 170; round++) {
      x.fill(300, 1, 1);
      DUE.due(x.pieces(round % 4) > 0 ? 1 : 0, 1);
      DUE.due(x.clear(), 300);
    }
    DUE.due(x.fill(300, 1, 1), 300);
    DUE.due(x.left(), 1);
    DUE.due(x.dictionary(), 60);
  }

  // ---- promise 2

  private static void add() {
    addUpTo300();
    addBytes();
    addWithoutRoom();
    addOutsideWithoutRoom();
    addRefusedChangesNothing();
  }

  private static void addUpTo300() {
    DUE.sentence(2, "A byte more of THE TEXT: how many.");
    Calls x = new Calls();
    for (int i = 1; i <= 300; i++) {
      DUE.due(x.add(i % 256), i);
    }
    DUE.due(x.octet(0), 1);
    DUE.due(x.octet(254), 255);
    DUE.due(x.octet(255), 0);
    DUE.due(x.octet(299), 44);
  }

  private static void addBytes() {
    DUE.sentence(2, "bytes (0 .. 255)");
    Calls x = new Calls();
    DUE.due(x.add(0), 1);
    DUE.due(x.add(255), 2);
    int[] outside = {-1, 256, -256, 511, MIN, MAX};
    for (int b : outside) {
      DUE.due(x.add(b), -2);
    }
    DUE.due(x.size(0), 2);
    DUE.due(x.octet(0), 0);
    DUE.due(x.octet(1), 255);
    DUE.due(x.add(1), 3);
  }

  private static void addWithoutRoom() {
    DUE.sentence(2, "THE TEXT has at most 300 bytes");
    for (int ahead = 0; ahead <= 1; ahead++) {
      Calls x = new Calls();
      if (ahead == 1) {
        x.fill(300, 1, 0);
        x.dictionary();
      }
      DUE.due(x.fill(299, 1, 0), 299);
      DUE.due(x.add(9), 300);
      DUE.due(x.add(8), -4);
      DUE.due(x.add(0), -4);
      DUE.due(x.add(255), -4);
      DUE.due(x.size(0), 300);
      DUE.due(x.octet(299), 9);
      DUE.due(x.octet(300), -1);
      x.clear();
      DUE.due(x.add(8), 1);
    }
  }

  private static void addOutsideWithoutRoom() {
    DUE.sentence(2, "-2; -4.");
    Calls x = new Calls();
    x.fill(300, 1, 0);
    DUE.due(x.add(256), -2);
    DUE.due(x.add(-1), -2);
  }

  private static void addRefusedChangesNothing() {
    DUE.sentence(2, "REFUSALS change nothing");
    Calls x = Calls.small();
    x.add(256);
    x.add(-1);
    DUE.same("the state", x.state(), Calls.small().state());
    Calls full = new Calls(1, 1);
    full.fill(300, 1, 0);
    int bits = full.bits(3, 1);
    DUE.due(full.add(0), -4);
    DUE.due(full.bits(3, 1), bits);
    DUE.due(full.octet(0), 198);
  }

  // ---- promise 3

  private static void fillArguments() {
    fillHowMany();
    fillHow();
    fillWithoutRoom();
    fillOutsideWithoutRoom();
    fillRefusedChangesNothing();
  }

  private static void fillHowMany() {
    DUE.sentence(3, "n bytes more (1 to 300)");
    Calls x = new Calls();
    int[] outside = {0, -1, 301, -300, MIN, MAX};
    for (int how = 0; how <= 2; how++) {
      for (int n : outside) {
        DUE.due(x.fill(n, 5, how), -2);
      }
      DUE.due(x.size(0), 0);
      DUE.due(x.fill(1, 5, how), 1);
      DUE.due(x.fill(299, 5, how), 300);
      x.clear();
      DUE.due(x.fill(300, 5, how), 300);
      x.clear();
    }
  }

  private static void fillHow() {
    DUE.sentence(3, "a byte comes: how 0: z % 256; 1: z % 3; 2:");
    Calls x = new Calls();
    int[] outside = {-1, 3, 4, MIN, MAX};
    for (int how : outside) {
      DUE.due(x.fill(1, 5, how), -2);
      DUE.due(x.fill(300, 5, how), -2);
    }
    DUE.due(x.size(0), 0);
    DUE.due(x.fill(1, 5, 0), 1);
    DUE.due(x.fill(1, 5, 1), 2);
    DUE.due(x.fill(1, 5, 2), 3);
  }

  private static void fillWithoutRoom() {
    DUE.sentence(3, "-4 no room");
    for (int how = 0; how <= 2; how++) {
      Calls x = new Calls();
      x.fill(300, 1, 0);
      x.dictionary();
      x.add(1);
      DUE.due(x.fill(300, 5, how), -4);
      DUE.due(x.size(0), 1);
      DUE.due(x.octet(1), -1);
      DUE.due(x.fill(298, 5, how), 299);
      DUE.due(x.fill(2, 5, how), -4);
      DUE.due(x.fill(1, 5, how), 300);
      DUE.due(x.fill(1, 5, how), -4);
      DUE.due(x.fill(300, 5, how), -4);
      DUE.due(x.size(0), 300);
    }
  }

  private static void fillOutsideWithoutRoom() {
    DUE.sentence(3, "-2; -4.");
    Calls x = new Calls();
    x.fill(300, 1, 0);
    DUE.due(x.fill(1, 5, 3), -2);
    DUE.due(x.fill(1, 5, -1), -2);
    DUE.due(x.fill(301, 5, 1), -2);
    DUE.due(x.fill(0, 5, 1), -2);
    DUE.due(x.fill(MAX, 5, 2), -2);
  }

  private static void fillRefusedChangesNothing() {
    DUE.sentence(3, "REFUSALS change nothing");
    Calls x = Calls.small();
    DUE.due(x.fill(294, 5, 0), -4);
    DUE.due(x.fill(0, 5, 0), -2);
    DUE.due(x.fill(301, 5, 1), -2);
    DUE.due(x.fill(3, 5, 3), -2);
    DUE.due(x.fill(3, 5, -1), -2);
    DUE.same("the state", x.state(), Calls.small().state());
  }

  private static void dueBytes(Calls x, int... want) {
    for (int i = 0; i < want.length; i++) {
      DUE.due(x.octet(i), want[i]);
    }
    DUE.due(x.size(0), want.length);
  }

  private static Calls filled(int n, int seed, int how) {
    Calls x = new Calls();
    DUE.due(x.fill(n, seed, how), n);
    return x;
  }

  private static void fillBytes() {
    fillWrapsAround();
    fillOctets();
    fillThree();
    fillFollowsSeedOfEachCall();
    echoDistance();
    echoOfItsOwnBytes();
    echoWhereNoneIs();
    echoOfTheTextAlone();
    echoWhereEighth();
  }

  /** Seed 1: x is 1103527590, then 2524885223, below 0 as an int: z is 16838, 38526, 10113, 50283. */
  private static void fillWrapsAround() {
    DUE.sentence(3, "x becomes x * 1103515245 + 12345, z is x >>> 16");
    dueBytes(filled(6, 1, 0), 198, 126, 129, 107, 75, 251);
    // The least seed there is: z is 32768, 21468, 9988, 22117.
    dueBytes(filled(6, MIN, 0), 0, 220, 4, 101, 170, 31);
    dueBytes(filled(6, MIN, 1), 2, 0, 1, 1, 2, 1);
    // The greatest: z is 15929, 37177, 42630, 26718, 41481, 28226.
    dueBytes(filled(6, MAX, 0), 57, 57, 134, 94, 9, 66);
    dueBytes(filled(6, MAX, 1), 2, 1, 0, 0, 0, 2);
    // -1: z is 48697, 4409, 9862, 59486, 8713, 60994.
    dueBytes(filled(6, -1, 0), 57, 57, 134, 94, 9, 66);
    dueBytes(filled(6, -1, 1), 1, 2, 1, 2, 1, 1);
  }

  private static void fillOctets() {
    DUE.sentence(3, "how 0: z % 256");
    // Seed 0: z is 0, 54236, 42756, 54885.
    dueBytes(filled(4, 0, 0), 0, 220, 4, 101);
    dueBytes(filled(1, 1, 0), 198);
  }

  private static void fillThree() {
    DUE.sentence(3, "1: z % 3");
    dueBytes(filled(6, 0, 1), 0, 2, 0, 0, 0, 0);
    dueBytes(filled(6, 1, 1), 2, 0, 0, 0, 0, 1);
  }

  private static void fillFollowsSeedOfEachCall() {
    DUE.sentence(3, "x being seed at first");
    Calls x = filled(2, 1, 0);
    DUE.due(x.fill(2, 1, 0), 4);
    DUE.due(x.fill(1, 0, 0), 5);
    dueBytes(x, 198, 126, 198, 126, 0);
  }

  /** Bytes from 100 on, so many, and one byte of the echo behind them. */
  private static void dueEcho(int before, int skipped, int seed, int want) {
    Calls x = new Calls();
    for (int i = 0; i < before; i++) {
      x.add(100 + i);
    }
    x.fill(skipped + 1, seed, 2);
    DUE.due(x.octet(before + skipped), want);
  }

  private static void echoDistance() {
    DUE.sentence(3, "that d places before in THE TEXT, d being 1 + (seed >>> 27)");
    // The least: seeds 1 and 2 ^ 27 - 1 have d 1 and z % 8 6 and 1.
    dueEcho(1, 0, 1, 100);
    dueEcho(3, 0, (1 << 27) - 1, 102);
    // MAX has d 16 and z % 8 1, MIN has d 17 and z % 8 4 at the second byte, -1 has d 32 and z % 8 1.
    dueEcho(16, 0, MAX, 100);
    dueEcho(17, 0, MAX, 101);
    dueEcho(16, 1, MIN, 100);
    dueEcho(17, 1, MIN, 101);
    dueEcho(32, 0, -1, 100);
    dueEcho(33, 0, -1, 101);
  }

  /** Seed 2 ^ 27 has d 2; z % 8 is 0, 4, 4, 5, 2: from the second on each is the one two before. */
  private static void echoOfItsOwnBytes() {
    DUE.sentence(3, "that d places before in THE TEXT");
    Calls x = new Calls().text("AB");
    DUE.due(x.fill(5, 1 << 27, 2), 7);
    dueBytes(x, 'A', 'B', 0, 'B', 0, 'B', 0);
    dueBytes(filled(6, 1, 2), 2, 2, 2, 2, 2, 2);
  }

  private static void echoWhereNoneIs() {
    DUE.sentence(3, "and there is one, else z % 4");
    dueBytes(filled(6, -1, 2), 1, 1, 2, 2, 1, 2);
    dueEcho(15, 0, MAX, 1);
    dueEcho(15, 1, MIN, 0);
    dueEcho(31, 0, -1, 1);
    dueEcho(0, 0, 1, 2);
    Calls x = new Calls().text("abcde");
    x.clear();
    x.fill(1, 1, 2);
    DUE.due(x.octet(0), 2);
  }

  private static void echoOfTheTextAlone() {
    DUE.sentence(3, "before in THE TEXT");
    Calls x = new Calls();
    x.fill(60, 1, 0);
    x.dictionary();
    x.fill(6, -1, 2);
    dueBytes(x, 1, 1, 2, 2, 1, 2);
    x.clear();
    x.fill(2, 1, 2);
    dueBytes(x, 2, 2);
  }

  private static void echoWhereEighth() {
    DUE.sentence(3, "if z % 8 is not 0");
    dueEcho(1, 0, 0, 0);
    dueEcho(2, 0, 1 << 27, 0);
    dueEcho(17, 0, MIN, 0);
    // z % 8 is 4 at the second byte, so that z % 4 would be 0.
    dueEcho(5, 1, 1 << 27, 104);
  }

  // ---- promise 4

  private static void clear() {
    clearOfEach();
    clearOfTheEmpty();
    clearLeavesNothing();
    clearKeepsTheDictionary();
  }

  private static void clearOfEach() {
    DUE.sentence(4, "how many bytes it had");
    int[] sizes = {1, 2, 299, 300};
    Calls x = new Calls();
    for (int n : sizes) {
      x.fill(n, 7, 2);
      DUE.due(x.clear(), n);
      DUE.due(x.size(0), 0);
    }
  }

  private static void clearOfTheEmpty() {
    DUE.sentence(4, "how many bytes it had");
    Calls x = new Calls();
    DUE.due(x.clear(), 0);
    DUE.due(x.clear(), 0);
    x.ahead("abc");
    DUE.due(x.clear(), 0);
    DUE.due(x.size(1), 3);
  }

  private static void clearLeavesNothing() {
    DUE.sentence(4, "THE TEXT is empty");
    Calls x = new Calls().text("abcabc");
    DUE.due(x.pieces(0), 4);
    x.clear();
    DUE.due(x.size(0), 0);
    DUE.due(x.octet(0), -1);
    DUE.due(x.longest(0, 0), -1);
    DUE.due(x.chained(0, 0), -1);
    DUE.due(x.front(0, -1, 0), -1);
    for (int way = 0; way <= 3; way++) {
      DUE.due(x.pieces(way), 0);
      DUE.due(x.piece(way, 0, 0), -1);
      DUE.due(x.bits(way, 0), 0);
      DUE.due(x.share(way), Calls.THROWS);
    }
    x.text("abc");
    DUE.due(x.longest(0, 0), 0);
    x.clear();
    DUE.due(x.fill(300, 1, 0), 300);
  }

  private static void clearKeepsTheDictionary() {
    DUE.sentence(4, "THE TEXT is empty");
    Calls x = new Calls().ahead("abc").text("abcab");
    x.clear();
    DUE.due(x.size(1), 3);
    DUE.due(x.octet(-1), 'c');
    DUE.due(x.octet(-3), 'a');
    x.text("abc");
    DUE.due(x.longest(0, 0), 3);
  }

  // ---- promise 5

  private static void dictionary() {
    dictionaryOf60AtMost();
    dictionaryOfTheLast();
    dictionaryEmptiesTheText();
    dictionaryOfTheEmpty();
    dictionaryAnew();
    dictionaryOfTheTextAlone();
  }

  private static void dictionaryOf60AtMost() {
    DUE.sentence(5, "60 at most");
    int[] sizes = {1, 2, 59, 60, 61, 62, 120, 299, 300};
    for (int n : sizes) {
      Calls x = filled(n, 7, 0);
      int kept = Math.min(60, n);
      DUE.due(x.dictionary(), kept);
      DUE.due(x.size(1), kept);
      DUE.due(x.octet(-kept - 1), -1);
    }
  }

  private static void dictionaryOfTheLast() {
    DUE.sentence(5, "THE DICTIONARY is the last bytes of THE TEXT");
    int[] sizes = {1, 59, 60, 61, 300};
    for (int n : sizes) {
      Calls x = new Calls();
      for (int i = 0; i < n; i++) {
        x.add(i % 251);
      }
      int kept = x.dictionary();
      for (int i = 1; i <= kept; i++) {
        DUE.due(x.octet(-i), (n - i) % 251);
      }
    }
  }

  private static void dictionaryEmptiesTheText() {
    DUE.sentence(5, "which is empty then");
    int[] sizes = {1, 60, 61, 300};
    for (int n : sizes) {
      Calls x = filled(n, 7, 0);
      DUE.due(x.pieces(0) > 0 ? 1 : 0, 1);
      x.dictionary();
      DUE.due(x.size(0), 0);
      DUE.due(x.octet(0), -1);
      DUE.due(x.longest(0, 0), -1);
      DUE.due(x.pieces(0), 0);
      DUE.due(x.clear(), 0);
      DUE.due(x.fill(300, 7, 0), 300);
    }
  }

  private static void dictionaryOfTheEmpty() {
    DUE.sentence(5, "how many");
    Calls x = new Calls();
    DUE.due(x.dictionary(), 0);
    DUE.due(x.size(1), 0);
    x.ahead("abc");
    DUE.due(x.dictionary(), 0);
    DUE.due(x.size(1), 0);
    DUE.due(x.octet(-1), -1);
    x.text("abc");
    DUE.due(x.longest(0, 0), 0);
  }

  private static void dictionaryAnew() {
    DUE.sentence(5, "THE DICTIONARY is the last bytes of THE TEXT");
    Calls x = new Calls();
    x.fill(60, 3, 0);
    x.dictionary();
    x.text("xyz");
    DUE.due(x.dictionary(), 3);
    DUE.due(x.octet(-1), 'z');
    DUE.due(x.octet(-3), 'x');
    DUE.due(x.octet(-4), -1);
    x.text("xyzxyz");
    DUE.due(x.longest(0, 0), 6);
    DUE.due(x.dictionary(), 6);
    DUE.due(x.octet(-6), 'x');
    DUE.due(x.octet(-7), -1);
  }

  /** Less than 60 bytes are not eked out with the dictionary before. */
  private static void dictionaryOfTheTextAlone() {
    DUE.sentence(5, "of THE TEXT, 60 at most");
    Calls x = new Calls();
    x.fill(60, 3, 0);
    x.dictionary();
    x.fill(59, 4, 0);
    DUE.due(x.dictionary(), 59);
    DUE.due(x.size(1), 59);
    DUE.due(x.octet(-60), -1);
  }

  // ---- promise 6

  private static void size() {
    sizeOfEach();
    sizeOutside();
  }

  private static void sizeOfEach() {
    DUE.sentence(6, "How many bytes THE TEXT (what = 0), THE DICTIONARY (1) has.");
    Calls x = new Calls();
    dueSizes(x, 0, 0);
    x.add(1);
    dueSizes(x, 1, 0);
    x.dictionary();
    dueSizes(x, 0, 1);
    x.fill(300, 3, 0);
    dueSizes(x, 300, 1);
    x.dictionary();
    dueSizes(x, 0, 60);
    x.fill(300, 3, 0);
    dueSizes(x, 300, 60);
    x.clear();
    dueSizes(x, 0, 60);
  }

  private static void dueSizes(Calls x, int text, int dictionary) {
    DUE.due(x.size(0), text);
    DUE.due(x.size(1), dictionary);
  }

  private static void sizeOutside() {
    DUE.sentence(6, "-2.");
    int[] outside = {-1, 2, 3, MIN, MAX};
    Calls empty = new Calls();
    for (int what : outside) {
      Calls x = Calls.small();
      DUE.due(x.size(what), -2);
      DUE.due(empty.size(what), -2);
      DUE.same("the state", x.state(), Calls.small().state());
    }
  }

  // ---- promise 7

  private static void octet() {
    octetOfTheText();
    octetOfTheDictionary();
    octetOfTheFull();
    octetWhereNoneIs();
    octetWhereNoneIsAnyMore();
  }

  private static void octetOfTheText() {
    DUE.sentence(7, "Byte i of THE TEXT");
    Calls x = new Calls().ahead("pqr").text("stu");
    DUE.due(x.octet(0), 's');
    DUE.due(x.octet(1), 't');
    DUE.due(x.octet(2), 'u');
    DUE.due(x.octet(3), -1);
  }

  private static void octetOfTheDictionary() {
    DUE.sentence(7, "from -1 back those of THE DICTIONARY, the last one first");
    Calls x = new Calls().ahead("pqr");
    for (int round = 0; round < 2; round++) {
      DUE.due(x.octet(-1), 'r');
      DUE.due(x.octet(-2), 'q');
      DUE.due(x.octet(-3), 'p');
      DUE.due(x.octet(-4), -1);
      x.text("stu");
    }
  }

  private static void octetOfTheFull() {
    DUE.sentence(7, "THE DICTIONARY at most 60, which stand right ahead of it");
    Calls x = new Calls();
    x.add(11);
    x.fill(58, 1, 0);
    x.add(12);
    x.dictionary();
    x.add(13);
    x.fill(298, 1, 0);
    x.add(14);
    DUE.due(x.octet(-61), -1);
    DUE.due(x.octet(-60), 11);
    DUE.due(x.octet(-59), 198);
    DUE.due(x.octet(-1), 12);
    DUE.due(x.octet(0), 13);
    DUE.due(x.octet(1), 198);
    DUE.due(x.octet(299), 14);
    DUE.due(x.octet(300), -1);
  }

  private static void octetWhereNoneIs() {
    DUE.sentence(7, "-1 there is no such place");
    int[] beyond = {300, 360, -60, -61, -300, MIN, MIN + 1, MAX, MAX - 60};
    for (int i : beyond) {
      Calls x = Calls.small();
      DUE.due(new Calls().octet(i), -1);
      DUE.due(x.octet(i), -1);
      DUE.same("the state", x.state(), Calls.small().state());
    }
    DUE.due(new Calls().octet(0), -1);
    DUE.due(new Calls().octet(-1), -1);
    DUE.due(new Calls().ahead("abc").octet(0), -1);
    DUE.due(new Calls().text("abc").octet(-1), -1);
  }

  private static void octetWhereNoneIsAnyMore() {
    DUE.sentence(7, "-1 there is no such place");
    Calls x = new Calls().text("abcdef");
    x.clear();
    DUE.due(x.octet(0), -1);
    x.add('x');
    DUE.due(x.octet(0), 'x');
    DUE.due(x.octet(1), -1);
    x.ahead("abc").ahead("z");
    DUE.due(x.octet(-1), 'z');
    DUE.due(x.octet(-2), -1);
  }
}
