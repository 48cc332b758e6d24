import java.util.ArrayList;
import java.util.List;
import java.util.Random;

/** All promises: runs of calls, the same on the class and on the slow telling of the document. */
public final class ReferenceTest {
  private static final Due DUE = new Due("ReferenceTest");
  private static final int[] SEEDS = {0, 1, -1, 5, 7, Integer.MIN_VALUE, Integer.MAX_VALUE, 123456789};

  public static void main(String[] args) {
    for (int run = 0; run < 400; run++) {
      anyCalls(new Random(run), run);
    }
    for (int run = 0; run < 300; run++) {
      shortestTexts(new Random(1000 + run));
    }
    for (int run = 0; run < 60; run++) {
      new WholeText(new Random(2000 + run), 100).compare();
    }
    for (int run = 0; run < 12; run++) {
      new WholeText(new Random(3000 + run), 300).compare();
    }
    DUE.end();
  }

  private static int some(Random random, int from, int to) {
    return from + random.nextInt(to - from + 1);
  }

  private static int seed(Random random) {
    return random.nextBoolean() ? SEEDS[random.nextInt(SEEDS.length)] : random.nextInt();
  }

  /** All 512 calls of an object, with arguments at and just beyond their bounds. */
  private static void anyCalls(Random random, int run) {
    int span = random.nextBoolean() ? some(random, -1, 302) : some(random, 1, 30);
    int depth = random.nextBoolean() ? some(random, -1, 66) : some(random, 1, 4);
    Calls x = new Calls(span, depth);
    Reference y = new Reference(span, depth);
    int longestFill = run % 4 == 0 ? 301 : 40;
    while (x.left() > 0) {
      int kind = random.nextInt(100);
      if (kind < 40) {
        changingCall(random, x, y, kind, longestFill);
      } else if (kind < 90) {
        askingCall(random, x, y, kind);
      } else if (y.text.size() < 120) {
        rowCall(random, x, y);
      }
    }
  }

  private static void changingCall(Random random, Calls x, Reference y, int kind, int longestFill) {
    if (kind < 30) {
      int b = random.nextInt(20) == 0 ? some(random, -2, 257) : random.nextInt(3);
      DUE.due(x.add(b), y.add(b));
    } else if (kind < 36) {
      int n = some(random, 0, longestFill);
      int seed = seed(random);
      int how = some(random, -1, 3);
      DUE.due(x.fill(n, seed, how), y.fill(n, seed, how));
    } else if (kind < 38) {
      DUE.due(x.clear(), y.clear());
    } else {
      DUE.due(x.dictionary(), y.dictionary());
    }
  }

  private static void askingCall(Random random, Calls x, Reference y, int kind) {
    int place = some(random, -2, y.text.size() + 1);
    int what = some(random, -1, 2);
    if (kind < 43) {
      DUE.due(x.size(what), y.size(what));
    } else if (kind < 50) {
      int i = some(random, -62, y.text.size() + 1);
      DUE.due(x.octet(i), y.octet(i));
    } else if (kind < 62) {
      DUE.due(x.longest(place, what), y.longest(place, what));
    } else if (kind < 74) {
      DUE.due(x.chained(place, what), y.chained(place, what));
    } else {
      int k = some(random, -2, 5);
      DUE.due(x.front(place, k, what), y.front(place, k, what));
    }
  }

  private static void rowCall(Random random, Calls x, Reference y) {
    int way = some(random, -1, 4);
    boolean there = way >= 0 && way <= 3;
    List<int[]> row = there ? y.row(way) : List.of();
    int[] repeats = Reference.withRepeats(row);
    int what = some(random, -1, 3);
    switch (random.nextInt(5)) {
      case 0:
        DUE.due(x.pieces(way), there ? row.size() : -1);
        break;
      case 1:
        int i = some(random, -1, row.size());
        boolean piece = there && i >= 0 && i < row.size();
        DUE.due(x.piece(way, i, what), !piece ? -1 : what < 0 || what > 2 ? -2 : row.get(i)[what]);
        break;
      case 2:
        DUE.due(x.bits(way, what),
            !there ? -1 : what < 0 || what > 1 ? -2 : what == 0 ? Reference.plain(row) : repeats[0]);
        break;
      case 3:
        DUE.due(x.repeats(way), there ? repeats[1] : -1);
        break;
      default:
        DUE.due(x.share(way), !there ? -1 : share(repeats[0], y.text.size()));
        break;
    }
  }

  private static long share(int bits, int size) {
    return size == 0 ? Calls.THROWS : 1000L * bits / (8L * size);
  }

  /** Way 3 against every row that there is. */
  private static void shortestTexts(Random random) {
    int span = some(random, 1, 12);
    Calls x = new Calls(span, 3);
    Reference y = new Reference(span, 3);
    int bytes = some(random, 1, 3);
    for (int part = 0; part < 2; part++) {
      int n = some(random, part, 11);
      for (int i = 0; i < n; i++) {
        int b = random.nextInt(bytes);
        x.add(b);
        y.add(b);
      }
      if (part == 0) {
        x.dictionary();
        y.dictionary();
      }
    }
    DUE.row(x, 3, Reference.told(y.fewestOfAll()));
  }

  /**
   * Every place of a text and every row of it, which are more calls than an object is promised
   * for, so that the object is made anew from its fills.
   */
  private static final class WholeText {
    private final int span;
    private final int depth;
    private final Reference y;
    /** n, seed, how; null stands for dictionary(). */
    private final List<int[]> parts = new ArrayList<>();
    private Calls x;

    WholeText(Random random, int most) {
      span = random.nextBoolean() ? 300 : some(random, 1, 300);
      depth = some(random, 1, 64);
      y = new Reference(span, depth);
      if (random.nextBoolean()) {
        manyParts(random, 80);
        parts.add(null);
        y.dictionary();
      }
      manyParts(random, most);
      x = make();
    }

    private void manyParts(Random random, int most) {
      for (int part = 0; part < 40 && y.text.size() < most; part++) {
        int n = some(random, 1, Math.min(60, most - y.text.size()));
        int[] fill = {n, seed(random), random.nextInt(8) == 0 ? 0 : some(random, 1, 2)};
        parts.add(fill);
        y.fill(fill[0], fill[1], fill[2]);
      }
    }

    private Calls make() {
      Calls made = new Calls(span, depth);
      for (int[] part : parts) {
        if (part == null) {
          made.dictionary();
        } else {
          made.fill(part[0], part[1], part[2]);
        }
      }
      DUE.due(made.size(0), y.text.size());
      DUE.due(made.size(1), y.dictionary.size());
      return made;
    }

    private Calls with(int calls) {
      if (x.left() < calls) {
        x = make();
      }
      return x;
    }

    void compare() {
      for (int place = 0; place < y.text.size(); place++) {
        compareMatches(place);
      }
      for (int way = 0; way <= 3; way++) {
        compareRow(way);
      }
    }

    private void compareMatches(int place) {
      int[] longest = y.longestAt(place);
      int[] chained = y.chainedAt(place);
      List<int[]> front = y.frontAt(place);
      with(5 + 2 * front.size());
      DUE.due(x.front(place, -1, 0), front.size());
      for (int what = 0; what <= 1; what++) {
        DUE.due(x.longest(place, what), longest[what]);
        DUE.due(x.chained(place, what), chained[what]);
        for (int k = 0; k < front.size(); k++) {
          DUE.due(x.front(place, k, what), front.get(k)[what]);
        }
      }
    }

    private void compareRow(int way) {
      List<int[]> row = y.row(way);
      int[] repeats = Reference.withRepeats(row);
      with(5);
      DUE.due(x.pieces(way), row.size());
      DUE.due(x.bits(way, 0), Reference.plain(row));
      DUE.due(x.bits(way, 1), repeats[0]);
      DUE.due(x.repeats(way), repeats[1]);
      DUE.due(x.share(way), share(repeats[0], y.text.size()));
      for (int i = 0; i < row.size(); i++) {
        with(3);
        for (int what = 0; what <= 2; what++) {
          DUE.due(x.piece(way, i, what), row.get(i)[what]);
        }
      }
    }
  }
}
