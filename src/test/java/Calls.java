/**
 * An object whose calls are written down for Due's messages, and counted: what a call answers
 * behind the 512th is free, so a test that asks more has no ground to stand on.
 */
final class Calls {
  static final int MOST = 512;
  /** What share answers here where it throws what the document names. */
  static final long THROWS = Long.MIN_VALUE;
  /** What it answers where the machine throws the like by itself, which it must not. */
  static final long MACHINE_THROWS = Long.MIN_VALUE + 1;
  private static String last = "no call";

  private final String made;
  private final MatchFinders object;
  private int count = 0;

  Calls(int span, int depth) {
    made = "MatchFinders(" + span + ", " + depth + ")";
    last = made;
    object = new MatchFinders(span, depth);
  }

  /** An object with the widest SPAN and the greatest DEPTH. */
  Calls() {
    this(300, 64);
  }

  /** A small text with a dictionary, which has each kind of piece, and states that are soon told. */
  static Calls small() {
    return new Calls(9, 2).ahead("xyz").text("xyzxyab");
  }

  static String last() {
    return last;
  }

  int left() {
    return MOST - count;
  }

  private MatchFinders at(String call) {
    count++;
    if (count > MOST) {
      throw new IllegalStateException("a test makes more than 512 calls on one object");
    }
    last = made + " call " + count + ", " + call;
    return object;
  }

  /** One add for each letter. */
  Calls text(String letters) {
    for (int i = 0; i < letters.length(); i++) {
      add(letters.charAt(i));
    }
    return this;
  }

  /** THE DICTIONARY of these letters; THE TEXT is empty then. */
  Calls ahead(String letters) {
    clear();
    text(letters);
    dictionary();
    return this;
  }

  /** So many like bytes more. */
  Calls same(int n, int b) {
    for (int i = 0; i < n; i++) {
      add(b);
    }
    return this;
  }

  /** The row of a way as text: place:length:distance of each piece. */
  String row(int way) {
    return row(way, 0);
  }

  /** The row from a piece on; each piece but the row's first has a space ahead. */
  String row(int way, int from) {
    StringBuilder row = new StringBuilder();
    int pieces = pieces(way);
    for (int i = from; i < pieces; i++) {
      row.append(i == 0 ? "" : " ").append(piece(way, i, 0)).append(':').append(piece(way, i, 1))
          .append(':').append(piece(way, i, 2));
    }
    return row.toString();
  }

  /** All that the calls tell of THE TEXT, THE DICTIONARY and the rows. */
  String state() {
    StringBuilder state = new StringBuilder();
    int size = size(0);
    int ahead = size(1);
    state.append(size).append(' ').append(ahead).append(" bytes");
    for (int i = -ahead - 1; i <= size; i++) {
      state.append(' ').append(octet(i));
    }
    for (int way = 0; way <= 3; way++) {
      state.append(" / ").append(row(way)).append(' ').append(bits(way, 0)).append(' ').append(bits(way, 1))
          .append(' ').append(repeats(way));
    }
    return state.toString();
  }

  int add(int b) {
    return at("add(" + b + ")").add(b);
  }

  int fill(int n, int seed, int how) {
    return at("fill(" + n + ", " + seed + ", " + how + ")").fill(n, seed, how);
  }

  int clear() {
    return at("clear()").clear();
  }

  int dictionary() {
    return at("dictionary()").dictionary();
  }

  int size(int what) {
    return at("size(" + what + ")").size(what);
  }

  int octet(int i) {
    return at("octet(" + i + ")").octet(i);
  }

  int longest(int place, int what) {
    return at("longest(" + place + ", " + what + ")").longest(place, what);
  }

  int chained(int place, int what) {
    return at("chained(" + place + ", " + what + ")").chained(place, what);
  }

  int front(int place, int k, int what) {
    return at("front(" + place + ", " + k + ", " + what + ")").front(place, k, what);
  }

  int pieces(int way) {
    return at("pieces(" + way + ")").pieces(way);
  }

  int piece(int way, int i, int what) {
    return at("piece(" + way + ", " + i + ", " + what + ")").piece(way, i, what);
  }

  int bits(int way, int what) {
    return at("bits(" + way + ", " + what + ")").bits(way, what);
  }

  int repeats(int way) {
    return at("repeats(" + way + ")").repeats(way);
  }

  long share(int way) {
    try {
      return at("share(" + way + ")").share(way);
    } catch (ArithmeticException e) {
      return "/ by zero".equals(e.getMessage()) ? MACHINE_THROWS : THROWS;
    }
  }
}
