import java.util.List;
import java.util.Random;

/** All promises: runs of calls, the same on the class and on the slow telling of the document. */
public final class ReferenceTest {
  private static final Due DUE = new Due("ReferenceTest");
  private static final int[] SEEDS = {0, 1, -1, 5, 7, Integer.MIN_VALUE, Integer.MAX_VALUE, 123456789};

  public static void main(String[] args) {
    for (int run = 0; run < 400; run++) {
      anyCalls(new Random(run), run);
    }
    for (int run = 0; run < 300; run++) {
      shortestTexts(new Random(1000 + run));
    }
    for (int run = 0; run < 60; run++) {
      wholeText(new Random(2000 + run), 100);
    }
    for (int run = 0; run < 12; run++) {
      wholeText(new Random(3000 + run), 300);
    }
    DUE.end();
  }

  private static int some(Random random, int from, int to) {
    return from + random.nextInt(to - from + 1);
  }

  private static int seed(Random random) {
    return random.nextBoolean() ? SEEDS[random.nextInt(SEEDS.length)] : random.nextInt();
  }

  /** 512 calls with arguments at and just beyond their bounds. */
  private static void anyCalls(Random random, int run) {
    int span = random.nextBoolean() ? some(random, -1, 302) : some(random, 1, 30);
    int depth = random.nextBoolean() ? some(random, -1, 66) : some(random, 1, 4);
    MatchFinders x = new MatchFinders(span, depth);
    Reference y = new Reference(span, depth);
    int longestFill = run % 4 == 0 ? 301 : 40;
    for (int call = 0; call < 512; call++) {
      int kind = random.nextInt(100);
      int place = some(random, -2, y.text.size() + 1);
      int what = some(random, -1, 2);
      int way = some(random, -1, 4);
      if (kind < 30) {
        int b = random.nextInt(20) == 0 ? some(random, -2, 257) : random.nextInt(3);
        DUE.due("add(" + b + ")", x.add(b), y.add(b));
      } else if (kind < 36) {
        int n = some(random, 0, longestFill);
        int seed = seed(random);
        int how = some(random, -1, 3);
        DUE.due("fill(" + n + ", " + seed + ", " + how + ")", x.fill(n, seed, how), y.fill(n, seed, how));
      } else if (kind < 38) {
        DUE.due("clear()", x.clear(), y.clear());
      } else if (kind < 40) {
        DUE.due("dictionary()", x.dictionary(), y.dictionary());
      } else if (kind < 43) {
        DUE.due("size(" + what + ")", x.size(what), y.size(what));
      } else if (kind < 50) {
        int i = some(random, -62, y.text.size() + 1);
        DUE.due("octet(" + i + ")", x.octet(i), y.octet(i));
      } else if (kind < 62) {
        DUE.due("longest(" + place + ", " + what + ")", x.longest(place, what), y.longest(place, what));
      } else if (kind < 74) {
        DUE.due("chained(" + place + ", " + what + ")", x.chained(place, what), y.chained(place, what));
      } else if (kind < 90) {
        int k = some(random, -2, 5);
        DUE.due("front(" + place + ", " + k + ", " + what + ")", x.front(place, k, what), y.front(place, k, what));
      } else if (y.text.size() < 120) {
        rowCall(random, x, y, way);
      }
    }
  }

  private static void rowCall(Random random, MatchFinders x, Reference y, int way) {
    boolean there = way >= 0 && way <= 3;
    List<int[]> row = there ? y.row(way) : List.of();
    int[] repeats = Reference.withRepeats(row);
    int i = some(random, -1, row.size());
    int what = some(random, -1, 3);
    boolean piece = there && i >= 0 && i < row.size();
    DUE.due("pieces(" + way + ")", x.pieces(way), there ? row.size() : -1);
    DUE.due("piece(" + way + ", " + i + ", " + what + ")", x.piece(way, i, what),
        !piece ? -1 : what < 0 || what > 2 ? -2 : row.get(i)[what]);
    DUE.due("bits(" + way + ", " + what + ")", x.bits(way, what),
        !there ? -1 : what < 0 || what > 1 ? -2 : what == 0 ? Reference.plain(row) : repeats[0]);
    DUE.due("repeats(" + way + ")", x.repeats(way), there ? repeats[1] : -1);
    long share = !there ? -1 : y.text.isEmpty() ? Due.THROWS : 1000L * repeats[0] / (8L * y.text.size());
    DUE.due("share(" + way + ")", Due.share(x, way), share);
  }

  /** Way 3 against every row that there is. */
  private static void shortestTexts(Random random) {
    int span = some(random, 1, 12);
    MatchFinders x = new MatchFinders(span, 3);
    Reference y = new Reference(span, 3);
    int bytes = some(random, 1, 3);
    for (int part = 0; part < 2; part++) {
      int n = some(random, part, 11);
      for (int i = 0; i < n; i++) {
        int b = random.nextInt(bytes);
        x.add(b);
        y.add(b);
      }
      if (part == 0) {
        x.dictionary();
        y.dictionary();
      }
    }
    DUE.dueRow(x, 3, Reference.told(y.fewestOfAll()));
  }

  /** Every place of a text and every row of it. */
  private static void wholeText(Random random, int most) {
    int span = random.nextBoolean() ? 300 : some(random, 1, 300);
    int depth = some(random, 1, 64);
    MatchFinders x = new MatchFinders(span, depth);
    Reference y = new Reference(span, depth);
    if (random.nextBoolean()) {
      manyParts(random, x, y, 80);
      DUE.due("dictionary()", x.dictionary(), y.dictionary());
    }
    manyParts(random, x, y, most);
    for (int place = 0; place < y.text.size(); place++) {
      for (int what = 0; what <= 1; what++) {
        DUE.due("longest(" + place + ", " + what + ")", x.longest(place, what), y.longest(place, what));
        DUE.due("chained(" + place + ", " + what + ")", x.chained(place, what), y.chained(place, what));
      }
      List<int[]> front = y.frontAt(place);
      DUE.due("front(" + place + ", -1, 0)", x.front(place, -1, 0), front.size());
      for (int k = 0; k < front.size(); k++) {
        DUE.due("front(" + place + ", " + k + ", 0)", x.front(place, k, 0), front.get(k)[0]);
        DUE.due("front(" + place + ", " + k + ", 1)", x.front(place, k, 1), front.get(k)[1]);
      }
    }
    for (int way = 0; way <= 3; way++) {
      List<int[]> row = y.row(way);
      DUE.dueRow(x, way, Reference.told(row));
      DUE.due("bits(" + way + ", 0)", x.bits(way, 0), Reference.plain(row));
      DUE.due("bits(" + way + ", 1)", x.bits(way, 1), Reference.withRepeats(row)[0]);
      DUE.due("repeats(" + way + ")", x.repeats(way), Reference.withRepeats(row)[1]);
      DUE.due("share(" + way + ")", Due.share(x, way), 1000L * Reference.withRepeats(row)[0] / (8L * y.text.size()));
    }
  }

  private static void manyParts(Random random, MatchFinders x, Reference y, int most) {
    for (int part = 0; part < 1000 && y.text.size() < most; part++) {
      int n = some(random, 1, Math.min(60, most - y.text.size()));
      int seed = seed(random);
      int how = random.nextInt(8) == 0 ? 0 : some(random, 1, 2);
      DUE.due("fill(" + n + ", " + seed + ", " + how + ")", x.fill(n, seed, how), y.fill(n, seed, how));
    }
  }
}
