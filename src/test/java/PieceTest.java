/** Promises 11 to 15: pieces, piece, bits, repeats, share. */
public final class PieceTest {
  private static final Due DUE = new Due("PieceTest");
  private static final int MIN = Integer.MIN_VALUE;
  private static final int MAX = Integer.MAX_VALUE;

  public static void main(String[] args) {
    emptyText();
    ordinaryRow();
    chainedRow();
    lookAhead();
    lookAheadFurther();
    lookAheadOfLikeLength();
    fewestBits();
    fewestBitsLongerFirst();
    fewestBitsLesserDistance();
    matchBits();
    repeatOfDistanceOne();
    lastThreeDistances();
    rowsFollowTheText();
    share();
    refusals();
    DUE.end();
  }

  private static MatchFinders of(int span, int depth, String text) {
    MatchFinders x = new MatchFinders(span, depth);
    Due.addAll(x, text);
    return x;
  }

  private static MatchFinders same(int n) {
    MatchFinders x = new MatchFinders(300, 64);
    for (int i = 0; i < n; i++) {
      x.add(5);
    }
    return x;
  }

  private static void dueAll(MatchFinders x, int way, int plain, int withRepeats, int repeats) {
    DUE.due("bits(" + way + ", 0)", x.bits(way, 0), plain);
    DUE.due("bits(" + way + ", 1)", x.bits(way, 1), withRepeats);
    DUE.due("repeats(" + way + ")", x.repeats(way), repeats);
  }

  private static void emptyText() {
    MatchFinders x = of(300, 64, "abcabc");
    x.dictionary();
    for (int way = 0; way <= 3; way++) {
      DUE.due("pieces(" + way + ")", x.pieces(way), 0);
      DUE.due("piece(" + way + ", 0, 0)", x.piece(way, 0, 0), -1);
      dueAll(x, way, 0, 0, 0);
      DUE.due("share(" + way + ")", Due.share(x, way), Due.THROWS);
    }
  }

  private static void ordinaryRow() {
    MatchFinders x = of(300, 64, "abc-abcabcd");
    for (int way = 0; way <= 3; way++) {
      DUE.dueRow(x, way, "0:1:0 1:1:0 2:1:0 3:1:0 4:3:4 7:3:3 10:1:0");
      // 5 LITERALS and MATCHES of 2 + G(1) + G(4) and 2 + G(1) + G(3).
      dueAll(x, way, 45 + 8 + 6, 45 + 8 + 6, 0);
    }
  }

  private static void chainedRow() {
    MatchFinders x = of(300, 1, "abcde1abc2abcde");
    String literals = "0:1:0 1:1:0 2:1:0 3:1:0 4:1:0 5:1:0 6:3:6 9:1:0 ";
    DUE.dueRow(x, 0, literals + "10:5:10");
    DUE.dueRow(x, 1, literals + "10:3:4 13:1:0 14:1:0");
    DUE.dueRow(x, 2, literals + "10:5:10");
    DUE.dueRow(of(300, 2, "abcde1abc2abcde"), 1, literals + "10:5:10");
  }

  private static void lookAhead() {
    MatchFinders x = of(300, 64, "abc1bcde2abcde");
    String literals = "0:1:0 1:1:0 2:1:0 3:1:0 4:1:0 5:1:0 6:1:0 7:1:0 8:1:0 ";
    DUE.dueRow(x, 0, literals + "9:3:9 12:1:0 13:1:0");
    DUE.dueRow(x, 2, literals + "9:1:0 10:4:6");
    DUE.dueRow(x, 3, literals + "9:1:0 10:4:6");
    dueAll(x, 0, 81 + 10 + 18, 81 + 10 + 18, 0);
    dueAll(x, 2, 90 + 10, 90 + 10, 0);
  }

  /** At 'abc' bcd.. is longer, and there cde.. is longer once more. */
  private static void lookAheadFurther() {
    MatchFinders x = of(300, 64, "abc1bcde2cdefg3abcdefg");
    String got = Due.row(x, 2);
    DUE.holds("a LITERAL at 15 and at 16, then cdefg: " + got,
        got.endsWith(" 15:1:0 16:1:0 17:5:8"));
    DUE.holds("way 0 takes abc and defg", Due.row(x, 0).endsWith(" 15:3:15 18:4:8"));
  }

  /** One place further there is a MATCH as long, which is not longer. */
  private static void lookAheadOfLikeLength() {
    MatchFinders x = of(300, 64, "abc1bcd2abcd");
    DUE.holds("abc is taken", Due.row(x, 2).endsWith(" 8:3:8 11:1:0"));
  }

  private static void fewestBits() {
    // 50 like bytes behind the first: 40 and 10 have 14 + 10 bits, 33 and 17 have 12 + 10.
    MatchFinders x = same(51);
    DUE.dueRow(x, 0, "0:1:0 1:40:1 41:10:1");
    DUE.dueRow(x, 3, "0:1:0 1:33:1 34:17:1");
    dueAll(x, 0, 33, 34, 1);
    dueAll(x, 3, 31, 32, 1);
    // A MATCH cut short so that the next one begins sooner.
    MatchFinders y = of(300, 64, "abcd1defghijk2abcdefghijk");
    DUE.holds("abc, then defghijk", Due.row(y, 3).endsWith(" 14:3:14 17:8:12"));
    DUE.holds("abcd, then efghijk", Due.row(y, 0).endsWith(" 14:4:14 18:7:12"));
  }

  private static void fewestBitsLongerFirst() {
    // 49 like bytes behind the first: 40 and 9, and 33 and 16, and 17 and 32 have 22 bits each.
    DUE.dueRow(same(50), 3, "0:1:0 1:40:1 41:9:1");
    DUE.due("bits(3, 0)", same(50).bits(3, 0), 31);
    // 13 behind the first: one of 13 has 10 bits.
    DUE.dueRow(same(14), 3, "0:1:0 1:13:1");
    // 2 behind the first are LITERALS.
    DUE.dueRow(same(3), 3, "0:1:0 1:1:0 2:1:0");
  }

  private static void fewestBitsLesserDistance() {
    // G(4) is G(7): the lesser DISTANCE of two with like bits.
    MatchFinders x = of(300, 64, "abcabc1abc");
    DUE.dueRow(x, 3, "0:1:0 1:1:0 2:1:0 3:3:3 6:1:0 7:3:4");
    // G(8) is G(12).
    MatchFinders y = of(300, 64, "xyzabc1abc2xyz-abcxyz");
    DUE.holds("of several", Due.row(y, 3).endsWith(" 15:3:8 18:3:7"));
  }

  /** LENGTHS and DISTANCES at both sides of each power of two. */
  private static void matchBits() {
    int[][] lengths = {{3, 1}, {4, 3}, {5, 3}, {6, 5}, {9, 5}, {10, 7}, {17, 7}, {18, 9}, {33, 9}, {34, 11}, {40, 11}};
    for (int[] l : lengths) {
      DUE.due("bits of LENGTH " + l[0], same(l[0] + 1).bits(0, 0), 9 + 2 + l[1] + 1);
    }
    int[][] distances = {{3, 3}, {4, 5}, {7, 5}, {8, 7}, {15, 7}, {16, 9}, {31, 9}, {32, 11}, {63, 11}, {64, 13},
        {127, 13}, {128, 15}, {240, 15}};
    for (int[] d : distances) {
      MatchFinders x = new MatchFinders(300, 64);
      for (int i = 0; i < d[0]; i++) {
        x.add(i);
      }
      for (int i = 0; i < 3; i++) {
        x.add(i);
      }
      DUE.due("bits of DISTANCE " + d[0], x.bits(0, 0), 9 * d[0] + 2 + 1 + d[1]);
    }
    dueBitsOfFarDistances();
  }

  private static void dueBitsOfFarDistances() {
    int[][] distances = {{255, 15}, {256, 17}, {297, 17}};
    for (int[] d : distances) {
      MatchFinders x = new MatchFinders(300, 64);
      for (int i = 0; i < 3; i++) {
        x.add(250 + i);
      }
      for (int i = 0; i < d[0] - 3; i++) {
        x.add(i % 150);
      }
      for (int i = 0; i < 3; i++) {
        x.add(250 + i);
      }
      int last = x.pieces(0) - 1;
      DUE.due("far DISTANCE", x.piece(0, last, 2), d[0]);
      int before = x.bits(0, 0);
      x.clear();
      for (int i = 0; i < 3; i++) {
        x.add(250 + i);
      }
      for (int i = 0; i < d[0] - 3; i++) {
        x.add(i % 150);
      }
      DUE.due("bits of DISTANCE " + d[0], before - x.bits(0, 0), 2 + 1 + d[1]);
    }
  }

  /** A repeat has 4 and G(L - 2), even where plainly it would have less. */
  private static void repeatOfDistanceOne() {
    MatchFinders x = same(81);
    DUE.dueRow(x, 0, "0:1:0 1:40:1 41:40:1");
    dueAll(x, 0, 9 + 14 + 14, 9 + 14 + 15, 1);
  }

  /**
   * For each distance three bytes from so far back, then a byte that has not been. The distances
   * must not bring the same three bytes twice, or a lesser distance would be found.
   */
  private static MatchFinders withDistances(int... distances) {
    MatchFinders x = new MatchFinders(300, 64);
    int fresh = 0;
    for (; fresh < 100; fresh++) {
      x.add(fresh);
    }
    for (int distance : distances) {
      for (int i = 0; i < 3; i++) {
        x.add(x.octet(x.size(0) - distance));
      }
      x.add(fresh++);
    }
    return x;
  }

  private static void lastThreeDistances() {
    // G of 51 and 62 is 11, of 73 and 84 it is 13; a MATCH has 3 bits more, a repeat 5 in all.
    int literals = 9 * 100;
    MatchFinders a = withDistances(51, 62, 73, 51);
    DUE.due("the row is as meant", a.pieces(0), 108);
    dueAll(a, 0, literals + 4 * 9 + 14 + 14 + 16 + 14, literals + 4 * 9 + 14 + 14 + 16 + 5, 1);
    MatchFinders b = withDistances(51, 62, 73, 84, 51);
    dueAll(b, 0, literals + 5 * 9 + 74, literals + 5 * 9 + 74, 0);
    // 51 used again is the latest, so 84 puts out 62; then 62 puts out 73.
    dueRepeats("51 62 73 51 84 62", 1, 51, 62, 73, 51, 84, 62);
    dueRepeats("51 62 73 51 84 73", 2, 51, 62, 73, 51, 84, 73);
    dueRepeats("51 62 73 51 84 51", 2, 51, 62, 73, 51, 84, 51);
    dueRepeats("51 62 73 62 84 51", 1, 51, 62, 73, 62, 84, 51);
    dueRepeats("51 62 73 62 84 73", 2, 51, 62, 73, 62, 84, 73);
    // 62 used again goes ahead of 73, and 51 stays the third.
    dueRepeats("51 62 73 62 51", 2, 51, 62, 73, 62, 51);
    // A DISTANCE used twice stands there once: the three are unlike.
    dueRepeats("51 62 62 73 51", 2, 51, 62, 62, 73, 51);
    dueRepeats("51 51 62 73 51", 2, 51, 51, 62, 73, 51);
  }

  private static void dueRepeats(String what, int want, int... distances) {
    MatchFinders x = withDistances(distances);
    DUE.due(what + ": pieces(0)", x.pieces(0), 100 + 2L * distances.length);
    for (int i = 0; i < distances.length; i++) {
      DUE.due(what + ": distance " + i, x.piece(0, 100 + 2 * i, 2), distances[i]);
    }
    DUE.due(what + ": repeats(0)", x.repeats(0), want);
  }

  /** A row that has been told is told anew when the text or the dictionary is another. */
  private static void rowsFollowTheText() {
    MatchFinders x = new MatchFinders(300, 64);
    for (int way = 0; way <= 3; way++) {
      x.clear();
      x.dictionary();
      Due.addAll(x, "abcab");
      DUE.due("before add", x.pieces(way), 5);
      x.add('c');
      DUE.due("behind add", x.pieces(way), 4);
      x.add(256);
      DUE.due("behind a refused add", x.pieces(way), 4);
      x.fill(1, 0, 0);
      DUE.due("behind fill", x.pieces(way), 5);
      DUE.due("behind fill", x.bits(way, 0), 4 * 9 + 6);
      x.clear();
      DUE.due("behind clear", x.pieces(way), 0);
      Due.addAll(x, "abc");
      DUE.due("anew", x.pieces(way), 3);
      x.dictionary();
      DUE.due("behind dictionary", x.pieces(way), 0);
      Due.addAll(x, "abc");
      DUE.due("anew", x.pieces(way), 1);
    }
  }

  private static void share() {
    // 9 bits of 8, 27 of 24, 13 of 32 (406.25, cut), 15 of 40.
    DUE.due("share of 1 byte", Due.share(same(1), 0), 1125);
    DUE.due("share of 3 bytes", Due.share(same(3), 3), 1125);
    DUE.due("share of 4 bytes", Due.share(same(4), 2), 406);
    DUE.due("share of 5 bytes", Due.share(same(5), 1), 375);
    // 38 bits with repeats, 37 without, of 648.
    DUE.due("share is of BITS WITH REPEATS", Due.share(same(81), 0), 58);
    MatchFinders x = of(300, 64, "abc-abcabcd");
    DUE.due("59 bits of 88, cut", Due.share(x, 0), 670);
    x.clear();
    DUE.due("no byte", Due.share(x, 3), Due.THROWS);
    DUE.due("no byte and no such way", Due.share(x, 4), -1);
    DUE.due("no byte and no such way", Due.share(x, -1), -1);
  }

  private static void refusals() {
    MatchFinders x = of(300, 64, "abcabcabc");
    int[] ways = {-1, 4, MIN, MAX};
    for (int way : ways) {
      DUE.due("pieces(" + way + ")", x.pieces(way), -1);
      DUE.due("piece(" + way + ", 0, 0)", x.piece(way, 0, 0), -1);
      DUE.due("piece(" + way + ", 0, 3)", x.piece(way, 0, 3), -1);
      DUE.due("bits(" + way + ", 0)", x.bits(way, 0), -1);
      DUE.due("bits(" + way + ", 2)", x.bits(way, 2), -1);
      DUE.due("repeats(" + way + ")", x.repeats(way), -1);
      DUE.due("share(" + way + ")", Due.share(x, way), -1);
    }
    int[] whats = {-1, 3, MIN, MAX};
    int[] pieces = {-1, 4, 300, MIN, MAX};
    for (int way = 0; way <= 3; way++) {
      DUE.due("pieces(" + way + ")", x.pieces(way), 4);
      for (int what : whats) {
        DUE.due("piece(" + way + ", 0, " + what + ")", x.piece(way, 0, what), -2);
        DUE.due("piece(" + way + ", 4, " + what + ")", x.piece(way, 4, what), -1);
        DUE.due("bits(" + way + ", " + what + ")", x.bits(way, what), -2);
      }
      DUE.due("bits(" + way + ", 2)", x.bits(way, 2), -2);
      for (int i : pieces) {
        DUE.due("piece(" + way + ", " + i + ", 0)", x.piece(way, i, 0), -1);
      }
      DUE.due("piece(" + way + ", 3, 1)", x.piece(way, 3, 1), 6);
    }
  }
}
