import java.util.ArrayList;
import java.util.List;

/**
 * The document's words once more, as slowly and as literally as can be: a MATCH is a test of
 * (place, LENGTH, DISTANCE), and all else is a search through all of them.
 */
final class Reference {
  final int span;
  final int depth;
  List<Integer> text = new ArrayList<>();
  List<Integer> dictionary = new ArrayList<>();

  Reference(int span, int depth) {
    this.span = span < 1 ? 1 : span > 300 ? 300 : span;
    this.depth = depth < 1 ? 1 : depth > 64 ? 64 : depth;
  }

  int add(int b) {
    if (b < 0 || b > 255) return -2;
    if (text.size() == 300) return -4;
    text.add(b);
    return text.size();
  }

  int fill(int n, int seed, int how) {
    if (n < 1 || n > 300 || how < 0 || how > 2) return -2;
    if (text.size() + n > 300) return -4;
    long x = seed & 0xFFFFFFFFL;
    int d = 1 + (int) ((seed & 0xFFFFFFFFL) / (1L << 27));
    for (int i = 0; i < n; i++) {
      x = (x * 1103515245L + 12345L) & 0xFFFFFFFFL;
      int z = (int) (x / 65536L);
      int b;
      if (how == 0) b = z % 256;
      else if (how == 1) b = z % 3;
      else if (z % 8 != 0 && text.size() >= d) b = text.get(text.size() - d);
      else b = z % 4;
      text.add(b);
    }
    return text.size();
  }

  int clear() {
    int had = text.size();
    text = new ArrayList<>();
    return had;
  }

  int dictionary() {
    int from = text.size() > 60 ? text.size() - 60 : 0;
    dictionary = new ArrayList<>(text.subList(from, text.size()));
    text = new ArrayList<>();
    return dictionary.size();
  }

  int size(int what) {
    return what == 0 ? text.size() : what == 1 ? dictionary.size() : -2;
  }

  int octet(int i) {
    if (i >= 0 && i < text.size()) return text.get(i);
    if (i < 0 && i >= -dictionary.size()) return dictionary.get(dictionary.size() + i);
    return -1;
  }

  boolean isMatch(int p, int length, int distance) {
    if (length < 3 || length > 40 || distance < 1 || distance > span) return false;
    if (distance > p + dictionary.size() || p + length > text.size()) return false;
    for (int i = p; i < p + length; i++) {
      if (octet(i) != octet(i - distance)) return false;
    }
    return true;
  }

  /** The greatest LENGTH of a DISTANCE at a place, 0 if it has no MATCH. */
  int greatest(int p, int distance) {
    for (int length = 40; length >= 3; length--) {
      if (isMatch(p, length, distance)) return length;
    }
    return 0;
  }

  int[] longestAt(int p) {
    for (int length = 40; length >= 3; length--) {
      for (int d = 1; d <= span; d++) {
        if (isMatch(p, length, d)) return new int[] {length, d};
      }
    }
    return new int[] {0, 0};
  }

  int[] chainedAt(int p) {
    List<int[]> near = new ArrayList<>();
    for (int d = 1; d <= span; d++) {
      if (isMatch(p, 3, d) && near.size() < depth) near.add(new int[] {greatest(p, d), d});
    }
    int[] best = {0, 0};
    for (int[] m : near) {
      if (m[0] > best[0]) best = m;
    }
    return best;
  }

  List<int[]> frontAt(int p) {
    List<int[]> front = new ArrayList<>();
    int[] lengths = new int[span + 1];
    for (int d = 1; d <= span; d++) {
      lengths[d] = greatest(p, d);
      boolean greater = lengths[d] > 0;
      for (int lesser = 1; lesser < d; lesser++) {
        if (lengths[lesser] >= lengths[d]) greater = false;
      }
      if (greater) front.add(new int[] {lengths[d], d});
    }
    return front;
  }

  boolean isPlace(int p) {
    return p >= 0 && p < text.size();
  }

  int longest(int p, int what) {
    if (!isPlace(p)) return -1;
    return what == 0 || what == 1 ? longestAt(p)[what] : -2;
  }

  int chained(int p, int what) {
    if (!isPlace(p)) return -1;
    return what == 0 || what == 1 ? chainedAt(p)[what] : -2;
  }

  int front(int p, int k, int what) {
    if (!isPlace(p)) return -1;
    List<int[]> front = frontAt(p);
    if (k < -1 || k >= front.size()) return -1;
    if (what != 0 && what != 1) return -2;
    return k == -1 ? front.size() : front.get(k)[what];
  }

  static int g(int x) {
    int halved = 0;
    while (x != 1) {
      x = x / 2;
      halved++;
    }
    return 2 * halved + 1;
  }

  static int plain(int[] piece) {
    return piece[1] == 1 ? 9 : 2 + g(piece[1] - 2) + g(piece[2]);
  }

  static int plain(List<int[]> row) {
    int sum = 0;
    for (int[] piece : row) sum += plain(piece);
    return sum;
  }

  /** Whether row a is to be taken rather than b: both go over the same bytes. */
  static boolean better(List<int[]> a, List<int[]> b) {
    int costA = plain(a);
    int costB = plain(b);
    if (costA != costB) return costA < costB;
    for (int i = 0; i < a.size() && i < b.size(); i++) {
      if (a.get(i)[1] != b.get(i)[1]) return a.get(i)[1] > b.get(i)[1];
      if (a.get(i)[2] != b.get(i)[2]) return a.get(i)[2] < b.get(i)[2];
    }
    return false;
  }

  List<int[]> row(int way) {
    if (way == 3) return fewest();
    List<int[]> row = new ArrayList<>();
    int p = 0;
    while (p < text.size()) {
      int[] m = way == 1 ? chainedAt(p) : longestAt(p);
      if (way == 2 && p + 1 < text.size() && longestAt(p + 1)[0] > m[0]) m = new int[] {0, 0};
      row.add(m[0] == 0 ? new int[] {p, 1, 0} : new int[] {p, m[0], m[1]});
      p += m[0] == 0 ? 1 : m[0];
    }
    return row;
  }

  /** The best row from each place on, whole rows compared with one another. */
  private List<int[]> fewest() {
    int n = text.size();
    List<List<int[]>> from = new ArrayList<>();
    for (int p = 0; p <= n; p++) from.add(new ArrayList<>());
    for (int p = n - 1; p >= 0; p--) {
      List<int[]> best = with(new int[] {p, 1, 0}, from.get(p + 1));
      for (int d = 1; d <= span; d++) {
        for (int length = 3; isMatch(p, length, d); length++) {
          List<int[]> other = with(new int[] {p, length, d}, from.get(p + length));
          if (better(other, best)) best = other;
        }
      }
      from.set(p, best);
    }
    return from.get(0);
  }

  /** The best of all rows there are, one after another: for the shortest texts alone. */
  List<int[]> fewestOfAll() {
    List<List<int[]>> best = new ArrayList<>();
    best.add(null);
    everyRow(0, new ArrayList<>(), best);
    return best.get(0);
  }

  private void everyRow(int p, List<int[]> sofar, List<List<int[]>> best) {
    if (p == text.size()) {
      if (best.get(0) == null || better(sofar, best.get(0))) best.set(0, new ArrayList<>(sofar));
      return;
    }
    for (int length = 1; p + length <= text.size(); length++) {
      for (int d = 0; d <= span; d++) {
        boolean literal = length == 1 && d == 0;
        if (!literal && !isMatch(p, length, d)) continue;
        sofar.add(new int[] {p, length, d});
        everyRow(p + length, sofar, best);
        sofar.remove(sofar.size() - 1);
      }
    }
  }

  private static List<int[]> with(int[] first, List<int[]> rest) {
    List<int[]> row = new ArrayList<>();
    row.add(first);
    row.addAll(rest);
    return row;
  }

  /** BITS WITH REPEATS and how many MATCHES are of a repeat. */
  static int[] withRepeats(List<int[]> row) {
    List<Integer> seen = new ArrayList<>();
    int bits = 0;
    int repeats = 0;
    for (int[] piece : row) {
      if (piece[1] == 1) {
        bits += 9;
        continue;
      }
      List<Integer> lastThree = new ArrayList<>();
      for (int i = seen.size() - 1; i >= 0 && lastThree.size() < 3; i--) {
        if (!lastThree.contains(seen.get(i))) lastThree.add(seen.get(i));
      }
      boolean repeat = lastThree.contains(piece[2]);
      bits += repeat ? 4 + g(piece[1] - 2) : plain(piece);
      repeats += repeat ? 1 : 0;
      seen.add(piece[2]);
    }
    return new int[] {bits, repeats};
  }

  static String told(List<int[]> row) {
    StringBuilder told = new StringBuilder();
    for (int[] piece : row) {
      told.append(told.length() == 0 ? "" : " ").append(piece[0]).append(':').append(piece[1])
          .append(':').append(piece[2]);
    }
    return told.toString();
  }
}
