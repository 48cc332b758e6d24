/**
 * Promises 11 to 15: pieces, piece, bits, repeats, share. Each method tests the sentence that it
 * names, at its bounds and on both sides of them.
 */
public final class PieceTest {
  private static final Due DUE = new Due("PieceTest");
  private static final int MIN = Integer.MIN_VALUE;
  private static final int MAX = Integer.MAX_VALUE;
  private static final int[] NO_WAYS = {-1, -2, 4, 5, MIN, MAX};

  public static void main(String[] args) {
    pieces();
    atOnce();
    lookAhead();
    fewestBits();
    piece();
    bits();
    repeats();
    share();
    DUE.end(11, 15);
  }

  private static Calls same(int n) {
    return new Calls().same(n, 5);
  }

  private static void dueAll(Calls x, int way, int plain, int withRepeats, int repeats) {
    DUE.due(x.bits(way, 0), plain);
    DUE.due(x.bits(way, 1), withRepeats);
    DUE.due(x.repeats(way), repeats);
  }

  /** The last pieces of a row, as many as there are spaces. */
  private static void dueEnd(Calls x, int way, String want) {
    int last = want.split(" ").length - 1;
    int pieces = x.pieces(way);
    DUE.same("the end of the row of way " + way, x.row(way, Math.max(0, pieces - last)), want);
  }

  // ---- promise 11

  private static void pieces() {
    noSuchWay();
    rowOfTheEmpty();
    rowOfOneByte();
    rowOfTheFull();
    rowToTheVeryEnd();
    rowOverTheTextAlone();
    rowFollowsTheText();
  }

  private static void noSuchWay() {
    DUE.sentence(11, "of a WAY (0 to 3) has. -1.");
    Calls x = Calls.small();
    for (int way : NO_WAYS) {
      DUE.due(x.pieces(way), -1);
      DUE.due(new Calls().pieces(way), -1);
    }
    DUE.same("the state", x.state(), Calls.small().state());
    for (int way = 0; way <= 3; way++) {
      DUE.due(x.pieces(way), 3);
    }
  }

  private static void rowOfTheEmpty() {
    DUE.sentence(11, "How many PIECES the row of a WAY (0 to 3) has.");
    for (int way = 0; way <= 3; way++) {
      DUE.due(new Calls().pieces(way), 0);
      DUE.due(new Calls().ahead("abcabc").pieces(way), 0);
    }
  }

  private static void rowOfOneByte() {
    DUE.sentence(11, "a row of PIECES goes over THE TEXT from place 0 to its end");
    for (int way = 0; way <= 3; way++) {
      DUE.row(new Calls().text("a"), way, "0:1:0");
      DUE.row(new Calls().text("aa"), way, "0:1:0 1:1:0");
      DUE.row(new Calls().text("aaa"), way, "0:1:0 1:1:0 2:1:0");
      DUE.row(new Calls().text("aaaa"), way, "0:1:0 1:3:1");
      DUE.row(new Calls().ahead("aaa").text("a"), way, "0:1:0");
      DUE.row(new Calls().ahead("aaa").text("aa"), way, "0:1:0 1:1:0");
      DUE.row(new Calls().ahead("a").text("aaa"), way, "0:3:1");
    }
  }

  private static void rowOfTheFull() {
    DUE.sentence(11, "THE TEXT has at most 300 bytes");
    for (int way = 0; way <= 3; way++) {
      // Bytes by turns have no MATCH of DISTANCE 1, and no other is within the SPAN.
      Calls x = new Calls(1, 64);
      for (int i = 0; i < 300; i++) {
        x.add(i % 2);
      }
      DUE.due(x.pieces(way), 300);
      DUE.due(x.piece(way, 299, 0), 299);
      DUE.due(x.piece(way, 299, 1), 1);
      DUE.due(x.piece(way, 300, 0), -1);
      DUE.due(x.bits(way, 0), 2700);
      DUE.due(x.bits(way, 1), 2700);
      DUE.due(x.share(way), 1125);
    }
    // One LITERAL, seven MATCHES of 40 and one of 19.
    Calls y = same(300);
    DUE.due(y.pieces(0), 9);
    DUE.due(y.piece(0, 7, 1), 40);
    DUE.due(y.piece(0, 8, 0), 281);
    DUE.due(y.piece(0, 8, 1), 19);
    Calls z = new Calls();
    z.fill(60, 1, 0);
    z.dictionary();
    z.fill(60, 1, 0);
    z.fill(240, 1, 0);
    // The first 120 bytes are each the one 60 before: three MATCHES of 40, then LITERALS.
    DUE.due(z.pieces(0), 183);
    DUE.due(z.piece(0, 2, 0), 80);
    DUE.due(z.piece(0, 2, 1), 40);
    DUE.due(z.piece(0, 182, 0), 299);
  }

  private static void rowToTheVeryEnd() {
    DUE.sentence(11, "a row of PIECES goes over THE TEXT from place 0 to its end");
    for (int way = 0; way <= 3; way++) {
      DUE.row(new Calls().text("abcabc"), way, "0:1:0 1:1:0 2:1:0 3:3:3");
      DUE.row(new Calls().text("abcabcd"), way, "0:1:0 1:1:0 2:1:0 3:3:3 6:1:0");
      DUE.row(new Calls().text("abcabcab"), way, "0:1:0 1:1:0 2:1:0 3:5:3");
      // The bytes of a longer text that has been do not count.
      Calls x = new Calls().text("abcabcabcabc");
      x.clear();
      DUE.row(x.text("abcab"), way, "0:1:0 1:1:0 2:1:0 3:1:0 4:1:0");
    }
  }

  private static void rowOverTheTextAlone() {
    DUE.sentence(11, "a row of PIECES goes over THE TEXT from place 0");
    for (int way = 0; way <= 3; way++) {
      DUE.row(new Calls().ahead("qabc").text("abcq"), way, "0:3:3 3:1:0");
      DUE.row(new Calls().ahead("abc").text("q"), way, "0:1:0");
    }
  }

  /** A row that has been told is another as soon as the text or the dictionary is. */
  private static void rowFollowsTheText() {
    DUE.sentence(11, "a row of PIECES goes over THE TEXT from place 0 to its end");
    for (int way = 0; way <= 3; way++) {
      Calls x = new Calls().text("abcab");
      DUE.due(x.pieces(way), 5);
      x.add('c');
      DUE.due(x.pieces(way), 4);
      x.add(256);
      DUE.due(x.pieces(way), 4);
      x.fill(1, 0, 0);
      DUE.due(x.pieces(way), 5);
      DUE.due(x.bits(way, 0), 4 * 9 + 6);
      x.clear();
      DUE.due(x.pieces(way), 0);
      x.text("abc");
      DUE.due(x.pieces(way), 3);
      x.dictionary();
      DUE.due(x.pieces(way), 0);
      x.text("abc");
      DUE.due(x.pieces(way), 1);
      x.clear();
      x.dictionary();
      x.text("abc");
      DUE.due(x.pieces(way), 3);
    }
  }

  // ---- promise 12: the ways

  private static void atOnce() {
    literalWithoutMatch();
    chainedLikewise();
  }

  private static void literalWithoutMatch() {
    DUE.sentence(12, "0 at each place THE LONGEST, if there is a MATCH, else a LITERAL");
    Calls x = new Calls().text("abc-abcabcd");
    for (int way = 0; way <= 3; way++) {
      DUE.row(x, way, "0:1:0 1:1:0 2:1:0 3:1:0 4:3:4 7:3:3 10:1:0");
    }
    DUE.row(new Calls(300, 1).text("abcde1abc2abcde"), 0,
        "0:1:0 1:1:0 2:1:0 3:1:0 4:1:0 5:1:0 6:3:6 9:1:0 10:5:10");
    // What a MATCH has gone over is not asked again: at 4 there would be a longer one.
    dueEnd(new Calls().text("abcbcdef-abcdef"), 0, " 9:3:9 12:3:7");
  }

  private static void chainedLikewise() {
    DUE.sentence(12, "1 likewise CHAINED");
    String begin = "0:1:0 1:1:0 2:1:0 3:1:0 4:1:0 5:1:0 6:3:6 9:1:0 ";
    DUE.row(new Calls(300, 1).text("abcde1abc2abcde"), 1, begin + "10:3:4 13:1:0 14:1:0");
    DUE.row(new Calls(300, 2).text("abcde1abc2abcde"), 1, begin + "10:5:10");
    DUE.row(new Calls(300, 1).text("abcde1abc2abcde"), 2, begin + "10:5:10");
  }

  private static void lookAhead() {
    lookAheadLonger();
    lookAheadOfLikeLength();
    lookAheadAgain();
    lookAheadOnePlaceAlone();
    lookAheadAtTheLastPlace();
    lookAheadFromALiteral();
    lookAheadOfForty();
  }

  private static final String LONGER_NEXT = "2 like 0, but a LITERAL where THE LONGEST one place further is longer";

  private static void lookAheadLonger() {
    DUE.sentence(12, LONGER_NEXT);
    Calls x = new Calls().text("abc1bcde2abcde");
    dueEnd(x, 0, " 8:1:0 9:3:9 12:1:0 13:1:0");
    dueEnd(x, 2, " 8:1:0 9:1:0 10:4:6");
  }

  /** One place further there is a MATCH as long, and one that is shorter: neither is longer. */
  private static void lookAheadOfLikeLength() {
    DUE.sentence(12, LONGER_NEXT);
    dueEnd(new Calls().text("abc1bcd2abcd"), 2, " 8:3:8 11:1:0");
    dueEnd(new Calls().text("abcd1bcd2abcd"), 2, " 9:4:9");
    dueEnd(new Calls().text("abcd1bcde2abcde"), 2, " 10:4:10 14:1:0");
  }

  private static void lookAheadAgain() {
    DUE.sentence(12, LONGER_NEXT);
    Calls x = new Calls().text("abc1bcde2cdefg3abcdefg");
    dueEnd(x, 2, " 15:1:0 16:1:0 17:5:8");
    dueEnd(x, 0, " 15:3:15 18:4:8");
  }

  /** Two places further there is a longer one, but one place further there is none. */
  private static void lookAheadOnePlaceAlone() {
    DUE.sentence(12, LONGER_NEXT);
    dueEnd(new Calls().text("abc1cdefg2abcdefg"), 2, " 10:3:10 13:4:8");
  }

  private static void lookAheadAtTheLastPlace() {
    DUE.sentence(12, LONGER_NEXT);
    DUE.row(new Calls().text("a"), 2, "0:1:0");
    dueEnd(new Calls().text("abcabc"), 2, " 3:3:3");
    dueEnd(new Calls().text("abcabca"), 2, " 3:4:3");
    dueEnd(new Calls().text("abcabc-"), 2, " 3:3:3 6:1:0");
    Calls x = new Calls().text("aaaaaaaa");
    x.clear();
    DUE.row(x.text("ba"), 2, "0:1:0 1:1:0");
    DUE.row(new Calls().ahead("aaa").text("aaa"), 2, "0:3:1");
  }

  private static void lookAheadFromALiteral() {
    DUE.sentence(12, LONGER_NEXT);
    DUE.row(new Calls().text("aaaaa"), 2, "0:1:0 1:4:1");
    DUE.row(new Calls().text("abcd-bcd"), 2, "0:1:0 1:1:0 2:1:0 3:1:0 4:1:0 5:3:4");
  }

  /** Both places have 40, the greatest there is, though the next would go on for longer. */
  private static void lookAheadOfForty() {
    DUE.sentence(12, "a LENGTH L, 3 to 40");
    DUE.row(same(60), 2, "0:1:0 1:40:1 41:19:1");
    Calls x = new Calls();
    for (int i = 0; i < 40; i++) {
      x.add(i);
    }
    x.text("-");
    for (int i = 1; i < 60; i++) {
      x.add(i);
    }
    x.text("+");
    for (int i = 0; i < 60; i++) {
      x.add(i);
    }
    dueEnd(x, 2, " 101:40:101 141:20:61");
  }

  private static void fewestBits() {
    fewest();
    fewestWithAShorterMatch();
    fewestWithALesserDistance();
    fewestWithAGreaterDistance();
    ofSeveralTheLonger();
    ofSeveralTheLongerAheadOfLiterals();
    ofSeveralTheLesserDistance();
    fewestOfShortTexts();
  }

  private static final String FEWEST = "3 the row whose PLAIN BITS together are fewest";
  private static final String OF_SEVERAL = "of several the one whose PIECE is longer where two differ first";

  private static void fewest() {
    DUE.sentence(12, FEWEST);
    // 50 like bytes behind the first: 40 and 10 have 14 + 10 bits, 33 and 17 have 12 + 10.
    Calls x = same(51);
    DUE.row(x, 0, "0:1:0 1:40:1 41:10:1");
    DUE.row(x, 3, "0:1:0 1:33:1 34:17:1");
    dueAll(x, 0, 33, 34, 1);
    dueAll(x, 3, 31, 32, 1);
  }

  /** 6 of DISTANCE 11 have 14 bits; 3 of DISTANCE 4, and 3 more of 11, have 8 + 10. */
  private static void fewestWithAGreaterDistance() {
    DUE.sentence(12, FEWEST);
    dueEnd(new Calls().text("abcdef1abc2abcdef"), 3, " 10:1:0 11:6:11");
    dueEnd(new Calls().text("abcdefg1abcdef2abc3abcdefg"), 3, " 18:1:0 19:7:19");
  }

  /** A MATCH cut short so that the next one begins sooner. */
  private static void fewestWithAShorterMatch() {
    DUE.sentence(12, FEWEST);
    Calls y = new Calls().text("abcd1defghijk2abcdefghijk");
    dueEnd(y, 3, " 14:3:14 17:8:12");
    dueEnd(y, 0, " 14:4:14 18:7:12");
  }

  /** 3 of DISTANCE 1 and a LITERAL have 13 bits, 4 of a far DISTANCE have 22. */
  private static void fewestWithALesserDistance() {
    DUE.sentence(12, FEWEST);
    Calls x = new Calls().text("aaab");
    x.fill(256, 1, 0);
    x.text("aaaab");
    dueEnd(x, 0, " 260:3:260 263:1:0 264:1:0");
    dueEnd(x, 3, " 260:1:0 261:3:1 264:1:0");
    Calls y = new Calls().text("aaab");
    y.fill(256, 1, 0);
    dueEnd(y.text("-aaab"), 3, " 260:1:0 261:4:261");
  }

  private static void ofSeveralTheLonger() {
    DUE.sentence(12, OF_SEVERAL);
    // 49 like bytes behind the first: 40 and 9, and 33 and 16, and 17 and 32 have 22 bits each.
    DUE.row(same(50), 3, "0:1:0 1:40:1 41:9:1");
    DUE.due(same(50).bits(3, 0), 31);
    DUE.row(same(14), 3, "0:1:0 1:13:1");
  }

  /** A MATCH and a LITERAL have as many bits as a LITERAL and a MATCH: G of 8, 9, 12 and 13 is 7. */
  private static void ofSeveralTheLongerAheadOfLiterals() {
    DUE.sentence(12, OF_SEVERAL);
    dueEnd(new Calls().text("bcd1abc23456abcd"), 3, " 11:1:0 12:3:8 15:1:0");
    dueEnd(new Calls().text("abc1bcd23456abcd"), 3, " 11:1:0 12:3:12 15:1:0");
    // G of 5 is 5: two bits less, so the LITERAL is first.
    dueEnd(new Calls().text("abc1bcd2abcd"), 3, " 7:1:0 8:1:0 9:3:5");
  }

  private static void ofSeveralTheLesserDistance() {
    DUE.sentence(12, "then the one of the lesser DISTANCE there");
    // G of 4 and 7 is 5.
    DUE.row(new Calls().text("abcabc1abc"), 3, "0:1:0 1:1:0 2:1:0 3:3:3 6:1:0 7:3:4");
    // G of 2 and 3 is 3, and of 1 it is 1: in a text of like bytes the least is taken.
    DUE.row(new Calls().text("ababababab"), 3, "0:1:0 1:1:0 2:8:2");
    // G of 8 and 12 is 7, and so are 7 and 18 not alike.
    dueEnd(new Calls().text("xyzabc1abc2xyz-abcxyz"), 3, " 15:3:8 18:3:7");
  }

  private static void fewestOfShortTexts() {
    DUE.sentence(12, FEWEST);
    DUE.row(same(1), 3, "0:1:0");
    DUE.row(same(3), 3, "0:1:0 1:1:0 2:1:0");
    DUE.row(same(4), 3, "0:1:0 1:3:1");
    DUE.row(new Calls(), 3, "");
  }

  // ---- promise 12: the call

  private static void piece() {
    pieceOfEachKind();
    pieceOfNoSuchWay();
    noSuchPiece();
    noPieceOfTheEmpty();
    pieceWhatOutside();
    pieceAheadOfWhat();
    pieceRefusedChangesNothing();
  }

  private static void pieceOfEachKind() {
    DUE.sentence(12, "0 its place, 1 LENGTH (1: a LITERAL), 2 DISTANCE (0: a LITERAL)");
    Calls x = Calls.small();
    int[][] want = {{0, 5, 3}, {5, 1, 0}, {6, 1, 0}};
    for (int way = 0; way <= 3; way++) {
      for (int i = 0; i < 3; i++) {
        for (int what = 0; what <= 2; what++) {
          DUE.due(x.piece(way, i, what), want[i][what]);
        }
      }
    }
  }

  private static void pieceOfNoSuchWay() {
    DUE.sentence(12, "-1 there is no such place, piece, way");
    Calls x = Calls.small();
    for (int way : NO_WAYS) {
      for (int what = 0; what <= 2; what++) {
        DUE.due(x.piece(way, 0, what), -1);
      }
    }
  }

  private static void noSuchPiece() {
    DUE.sentence(12, "-1 there is no such place, piece, way");
    Calls x = Calls.small();
    int[] none = {-1, -2, 3, 4, 7, 299, 300, MIN, MAX};
    for (int way = 0; way <= 3; way++) {
      for (int i : none) {
        for (int what = 0; what <= 2; what++) {
          DUE.due(x.piece(way, i, what), -1);
        }
      }
      DUE.due(x.piece(way, 2, 0), 6);
    }
  }

  /** Nor of one that had some. */
  private static void noPieceOfTheEmpty() {
    DUE.sentence(12, "-1 there is no such place, piece, way");
    Calls x = Calls.small();
    for (int way = 0; way <= 3; way++) {
      DUE.due(new Calls().piece(way, 0, 0), -1);
      DUE.due(x.piece(way, 0, 0), 0);
    }
    x.clear();
    for (int way = 0; way <= 3; way++) {
      DUE.due(x.piece(way, 0, 0), -1);
      DUE.due(x.piece(way, 0, 3), -1);
    }
    x.text("q");
    for (int way = 0; way <= 3; way++) {
      DUE.due(x.piece(way, 0, 1), 1);
      DUE.due(x.piece(way, 1, 1), -1);
    }
  }

  private static void pieceWhatOutside() {
    DUE.sentence(12, "-2 outside its bounds");
    Calls x = Calls.small();
    int[] whats = {-1, 3, 4, MIN, MAX};
    for (int way = 0; way <= 3; way++) {
      for (int what : whats) {
        DUE.due(x.piece(way, 0, what), -2);
        DUE.due(x.piece(way, 2, what), -2);
      }
    }
  }

  private static void pieceAheadOfWhat() {
    DUE.sentence(12, "-1; -2.");
    Calls x = Calls.small();
    int[] whats = {-1, 3, MIN, MAX};
    for (int what : whats) {
      DUE.due(x.piece(-1, 0, what), -1);
      DUE.due(x.piece(4, 0, what), -1);
      DUE.due(x.piece(0, -1, what), -1);
      DUE.due(x.piece(3, 3, what), -1);
      DUE.due(new Calls().piece(0, 0, what), -1);
    }
  }

  private static void pieceRefusedChangesNothing() {
    DUE.sentence(12, "REFUSALS change nothing");
    Calls x = Calls.small();
    x.piece(4, 0, 0);
    x.piece(0, 3, 0);
    x.piece(1, -1, 0);
    x.piece(3, 0, 3);
    DUE.same("the state", x.state(), Calls.small().state());
  }

  // ---- promise 13

  private static void bits() {
    bitsOfTheEmpty();
    bitsOfLiterals();
    bitsOfLengths();
    bitsOfDistances();
    bitsOfFarDistances();
    bitsOfAFirstMatch();
    bitsOfARepeat();
    bitsOfARepeatOfDistanceOne();
    bitsOfNoSuchWay();
    bitsWhatOutside();
    wayAheadOfWhat();
  }

  private static void bitsOfTheEmpty() {
    DUE.sentence(13, "PLAIN BITS of the row (what = 0), BITS WITH REPEATS (1).");
    Calls x = new Calls().text("abcabcab");
    for (int way = 0; way <= 3; way++) {
      dueAll(new Calls(), way, 0, 0, 0);
      dueAll(new Calls().ahead("abcabc"), way, 0, 0, 0);
      DUE.holds("bits before", x.bits(way, 1) > 0);
    }
    x.clear();
    for (int way = 0; way <= 3; way++) {
      dueAll(x, way, 0, 0, 0);
    }
  }

  private static void bitsOfLiterals() {
    DUE.sentence(13, "PLAIN BITS: a LITERAL 9");
    for (int way = 0; way <= 3; way++) {
      dueAll(same(1), way, 9, 9, 0);
      dueAll(same(3), way, 27, 27, 0);
      dueAll(new Calls().text("abcdefghij"), way, 90, 90, 0);
    }
  }

  /** LENGTHS at both sides of each power of two and 2: G(L - 2). */
  private static void bitsOfLengths() {
    DUE.sentence(13, "G of x, 1 or more: 2 times how often x can be halved (cut) till it is 1, and 1.");
    int[][] lengths = {{3, 1}, {4, 3}, {5, 3}, {6, 5}, {9, 5}, {10, 7}, {17, 7}, {18, 9}, {33, 9}, {34, 11}, {40, 11}};
    for (int[] l : lengths) {
      for (int way = 0; way <= 3; way++) {
        DUE.due(same(l[0] + 1).bits(way, 0), 9 + 2 + l[1] + 1);
      }
    }
  }

  /** DISTANCES at both sides of each power of two. */
  private static void bitsOfDistances() {
    DUE.sentence(13, "a MATCH 2 and G(L - 2) and G(D)");
    int[][] distances = {{3, 3}, {4, 5}, {7, 5}, {8, 7}, {15, 7}, {16, 9}, {31, 9}, {32, 11}, {63, 11}, {64, 13},
        {127, 13}, {128, 15}, {240, 15}};
    for (int[] d : distances) {
      Calls x = new Calls();
      for (int i = 0; i < d[0] + 3; i++) {
        x.add(i % d[0]);
      }
      for (int way = 0; way <= 3; way++) {
        DUE.due(x.bits(way, 0), 9 * d[0] + 2 + 1 + d[1]);
        DUE.due(x.bits(way, 1), 9 * d[0] + 2 + 1 + d[1]);
      }
    }
    DUE.due(new Calls().text("aaaa").bits(0, 0), 9 + 2 + 1 + 1);
    DUE.due(new Calls().text("ababa").bits(0, 0), 18 + 2 + 1 + 3);
  }

  /** The dictionary holds the three bytes, the text begins with other ones by turns. */
  private static void bitsOfFarDistances() {
    DUE.sentence(13, "a MATCH 2 and G(L - 2) and G(D)");
    int[][] distances = {{255, 15}, {256, 17}, {299, 17}, {300, 17}};
    for (int[] d : distances) {
      int[] before = new int[4];
      Calls x = new Calls().text("abc").same(57, 1);
      x.dictionary();
      for (int i = 60; i < d[0]; i++) {
        x.add(i % 150 + 100);
      }
      for (int way = 0; way <= 3; way++) {
        before[way] = x.bits(way, 0);
      }
      x.text("abc");
      for (int way = 0; way <= 3; way++) {
        DUE.due(x.piece(way, x.pieces(way) - 1, 2), d[0]);
        DUE.due(x.bits(way, 0) - before[way], 2 + 1 + d[1]);
      }
    }
  }

  private static void bitsOfAFirstMatch() {
    DUE.sentence(13, "(none at first)");
    Calls x = new Calls().text("abcabc-xyzxyz");
    // The second has the DISTANCE of the first: 5 bits for 6.
    dueAll(x, 0, 7 * 9 + 6 + 6, 7 * 9 + 6 + 5, 1);
    // None of the row before is left.
    dueAll(x, 0, 7 * 9 + 6 + 6, 7 * 9 + 6 + 5, 1);
    x.add('-');
    dueAll(x, 0, 8 * 9 + 6 + 6, 8 * 9 + 6 + 5, 1);
    x.clear();
    dueAll(x.text("abcabc"), 0, 3 * 9 + 6, 3 * 9 + 6, 0);
  }

  private static void bitsOfARepeat() {
    DUE.sentence(13, "a MATCH of one of them has 4 and G(L - 2)");
    // G of 51 and 62 is 11, of 73 and 84 it is 13; a MATCH has 3 bits more, a repeat 5 in all.
    Calls a = withDistances(51, 62, 73, 51);
    dueAll(a, 0, 900 + 4 * 9 + 14 + 14 + 16 + 14, 900 + 4 * 9 + 14 + 14 + 16 + 5, 1);
    Calls b = withDistances(51, 62, 73, 84, 51);
    dueAll(b, 0, 900 + 5 * 9 + 14 + 14 + 16 + 16 + 14, 900 + 5 * 9 + 14 + 14 + 16 + 16 + 14, 0);
    // The LENGTH counts in a repeat, too: 40 and 20 of DISTANCE 60.
    Calls c = new Calls();
    c.fill(60, 1, 0);
    c.dictionary();
    c.fill(60, 1, 0);
    dueAll(c, 0, 2 + 11 + 11 + 2 + 9 + 11, 2 + 11 + 11 + 4 + 9, 1);
  }

  private static void bitsOfARepeatOfDistanceOne() {
    DUE.sentence(13, "a MATCH of one of them has 4 and G(L - 2)");
    dueAll(same(81), 0, 9 + 14 + 14, 9 + 14 + 15, 1);
  }

  private static void bitsOfNoSuchWay() {
    DUE.sentence(13, "-1 there is no such place, piece, way");
    Calls x = Calls.small();
    for (int way : NO_WAYS) {
      DUE.due(x.bits(way, 0), -1);
      DUE.due(x.bits(way, 1), -1);
      DUE.due(new Calls().bits(way, 0), -1);
    }
    DUE.same("the state", x.state(), Calls.small().state());
  }

  private static void bitsWhatOutside() {
    DUE.sentence(13, "-2 outside its bounds");
    Calls x = Calls.small();
    int[] whats = {-1, 2, 3, MIN, MAX};
    for (int way = 0; way <= 3; way++) {
      for (int what : whats) {
        DUE.due(x.bits(way, what), -2);
        DUE.due(new Calls().bits(way, what), -2);
      }
    }
    DUE.same("the state", x.state(), Calls.small().state());
  }

  private static void wayAheadOfWhat() {
    DUE.sentence(13, "-1; -2.");
    Calls x = Calls.small();
    for (int way : NO_WAYS) {
      DUE.due(x.bits(way, -1), -1);
      DUE.due(x.bits(way, 2), -1);
    }
  }

  // ---- promise 14

  /**
   * For each distance three bytes from so far back, then a byte that has not been. The distances
   * must not bring the same three bytes twice, or a lesser distance would be found.
   */
  private static Calls withDistances(int... distances) {
    Calls x = new Calls();
    int fresh = 0;
    int[] bytes = new int[300];
    int size = 0;
    for (; size < 100; size++) {
      bytes[size] = fresh++;
    }
    for (int distance : distances) {
      for (int i = 0; i < 3; i++) {
        bytes[size] = bytes[size - distance];
        size++;
      }
      bytes[size++] = fresh++;
    }
    for (int i = 0; i < size; i++) {
      x.add(bytes[i]);
    }
    return x;
  }

  private static void dueRepeats(int want, int... distances) {
    Calls x = withDistances(distances);
    for (int way = 0; way <= 3; way++) {
      DUE.due(x.pieces(way), 100 + 2L * distances.length);
      for (int i = 0; i < distances.length; i++) {
        DUE.due(x.piece(way, 100 + 2 * i, 2), distances[i]);
      }
      DUE.due(x.repeats(way), want);
    }
  }

  private static void repeats() {
    repeatsOfTheEmpty();
    repeatsOfNone();
    repeatsOfTheRowBefore();
    repeatsOfTheLastThree();
    repeatsOfUnlikeOnes();
    repeatsMakeTheLatest();
    repeatsOfEach();
    repeatsOfNoSuchWay();
  }

  private static void repeatsOfTheEmpty() {
    DUE.sentence(14, "How many MATCHES of the row are of a DISTANCE that is a repeat.");
    Calls x = new Calls().same(81, 5);
    for (int way = 0; way <= 3; way++) {
      DUE.due(new Calls().repeats(way), 0);
      DUE.due(new Calls().ahead("abcabc").repeats(way), 0);
      DUE.due(x.repeats(way), 1);
    }
    x.clear();
    for (int way = 0; way <= 3; way++) {
      DUE.due(x.repeats(way), 0);
    }
  }

  private static void repeatsOfNone() {
    DUE.sentence(14, "(none at first)");
    for (int way = 0; way <= 3; way++) {
      DUE.due(new Calls().text("abcdef").repeats(way), 0);
      DUE.due(new Calls().text("abcabc").repeats(way), 0);
    }
    dueRepeats(0, 51);
    dueRepeats(0, 51, 62, 73, 84, 95);
  }

  /** The three of a row that was told before, here 5, 4 and 3, are none of the next row's. */
  private static void repeatsOfTheRowBefore() {
    DUE.sentence(14, "(none at first)");
    String[] next = {"abcabc", "abcdabcd", "abcdeabcde"};
    for (int way = 0; way <= 3; way++) {
      for (String text : next) {
        Calls x = new Calls().text("abcabc-defgdefg+hijklhijkl");
        DUE.due(x.repeats(way), 0);
        DUE.due(x.piece(way, x.pieces(way) - 1, 2), 5);
        x.clear();
        DUE.due(x.text(text).repeats(way), 0);
        DUE.due(x.bits(way, 1), x.bits(way, 0));
      }
    }
  }

  private static void repeatsOfTheLastThree() {
    DUE.sentence(14, "the last three unlike DISTANCES of a row, the latest first");
    dueRepeats(1, 51, 51);
    dueRepeats(1, 51, 62, 51);
    dueRepeats(1, 51, 62, 73, 51);
    dueRepeats(0, 51, 62, 73, 84, 51);
    dueRepeats(1, 51, 62, 73, 84, 62);
  }

  /** A DISTANCE used twice stands there once. */
  private static void repeatsOfUnlikeOnes() {
    DUE.sentence(14, "the last three unlike DISTANCES");
    dueRepeats(2, 51, 62, 62, 73, 51);
    dueRepeats(2, 51, 51, 62, 73, 51);
    dueRepeats(2, 51, 62, 73, 73, 51);
    dueRepeats(2, 51, 62, 73, 62, 51);
  }

  /** One used again is the latest, and the next new one puts out another. */
  private static void repeatsMakeTheLatest() {
    DUE.sentence(14, "the latest first");
    dueRepeats(1, 51, 62, 73, 51, 84, 62);
    dueRepeats(2, 51, 62, 73, 51, 84, 73);
    dueRepeats(2, 51, 62, 73, 51, 84, 51);
    dueRepeats(1, 51, 62, 73, 62, 84, 51);
    dueRepeats(2, 51, 62, 73, 62, 84, 73);
    dueRepeats(2, 51, 62, 51, 73, 84, 51);
    dueRepeats(1, 51, 62, 51, 73, 84, 62);
  }

  private static void repeatsOfEach() {
    DUE.sentence(14, "How many MATCHES of the row are of a DISTANCE that is a repeat.");
    // One LITERAL and eight MATCHES of DISTANCE 1; behind a like byte no LITERAL.
    DUE.due(same(300).repeats(0), 7);
    DUE.due(same(300).repeats(1), 7);
    DUE.due(same(300).repeats(2), 7);
    Calls x = new Calls().text("a");
    x.dictionary();
    x.same(300, 'a');
    DUE.due(x.pieces(0), 8);
    DUE.due(x.repeats(0), 7);
  }

  private static void repeatsOfNoSuchWay() {
    DUE.sentence(14, "-1.");
    Calls x = Calls.small();
    for (int way : NO_WAYS) {
      DUE.due(x.repeats(way), -1);
      DUE.due(new Calls().repeats(way), -1);
    }
    DUE.same("the state", x.state(), Calls.small().state());
  }

  // ---- promise 15

  private static void share() {
    shareIsCut();
    shareWithRepeats();
    shareOfTheTextAlone();
    shareOfTheEmpty();
    shareOfTheEmptyChangesNothing();
    wayAheadOfTheEmpty();
  }

  private static void shareIsCut() {
    DUE.sentence(15, "1000 times BITS WITH REPEATS by 8 bits for each byte of THE TEXT, cut.");
    // 9 bits of 8, 27 of 24, 13 of 32 (406.25, cut), 15 of 40, 15 of 48 (312.5, cut).
    for (int way = 0; way <= 3; way++) {
      DUE.due(same(1).share(way), 1125);
      DUE.due(same(3).share(way), 1125);
      DUE.due(same(4).share(way), 406);
      DUE.due(same(5).share(way), 375);
      DUE.due(same(6).share(way), 312);
    }
    // 59 bits of 88 are 670.45.
    DUE.due(new Calls().text("abc-abcabcd").share(0), 670);
    // 33 bits of 48 are 687.5.
    DUE.due(new Calls().text("abcabc").share(0), 687);
  }

  private static void shareWithRepeats() {
    DUE.sentence(15, "1000 times BITS WITH REPEATS");
    // 38 bits with repeats, 37 without, of 648: 58.6 and 57.09.
    DUE.due(same(81).share(0), 58);
    // 74 with, 75 without, of 104: 711.5 and 721.1.
    DUE.due(new Calls().text("abcabc-xyzxyz").share(0), 711);
  }

  /** The bytes of the dictionary do not count. */
  private static void shareOfTheTextAlone() {
    DUE.sentence(15, "for each byte of THE TEXT");
    for (int way = 0; way <= 3; way++) {
      DUE.due(new Calls().ahead("xyz").text("q").share(way), 1125);
      // 2, 1 and 3 bits of 24.
      DUE.due(new Calls().ahead("xyz").text("xyz").share(way), 250);
    }
  }

  private static void shareOfTheEmpty() {
    DUE.sentence(15, "ArithmeticException: it has none.");
    Calls x = Calls.small();
    for (int way = 0; way <= 3; way++) {
      DUE.due(new Calls().share(way), Calls.THROWS);
      DUE.due(new Calls().ahead("abc").share(way), Calls.THROWS);
      DUE.holds("a share before", x.share(way) > 0);
    }
    x.clear();
    for (int way = 0; way <= 3; way++) {
      DUE.due(x.share(way), Calls.THROWS);
    }
    x.text("q");
    DUE.due(x.share(3), 1125);
    x.dictionary();
    DUE.due(x.share(3), Calls.THROWS);
  }

  private static void shareOfTheEmptyChangesNothing() {
    DUE.sentence(15, "ArithmeticException: it has none.");
    Calls x = new Calls().ahead("abc");
    DUE.due(x.share(0), Calls.THROWS);
    DUE.same("the state", x.state(), new Calls().ahead("abc").state());
    x.text("abcabc");
    DUE.same("the state", x.state(), new Calls().ahead("abc").text("abcabc").state());
  }

  private static void wayAheadOfTheEmpty() {
    DUE.sentence(15, "-1 (first).");
    Calls x = Calls.small();
    for (int way : NO_WAYS) {
      DUE.due(new Calls().share(way), -1);
      DUE.due(new Calls().ahead("abc").share(way), -1);
      DUE.due(x.share(way), -1);
    }
    DUE.same("the state", x.state(), Calls.small().state());
  }
}
