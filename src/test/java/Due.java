/** Counts the answers of one test and prints each that is not the one that is due. */
final class Due {
  private int asked = 0;
  private int wrong = 0;
  private final String name;

  Due(String name) {
    this.name = name;
  }

  void due(String call, long got, long want) {
    asked++;
    if (got != want) {
      wrong++;
      System.out.println(name + ": " + call + " answered " + got + ", due is " + want);
    }
  }

  void holds(String what, boolean held) {
    due(what + " (1 yes, 0 no)", held ? 1 : 0, 1);
  }

  /** share's answer, or Long.MIN_VALUE where it throws what the document names. */
  static long share(MatchFinders x, int way) {
    try {
      return x.share(way);
    } catch (ArithmeticException e) {
      return THROWS;
    }
  }

  static final long THROWS = Long.MIN_VALUE;

  static void addAll(MatchFinders x, String text) {
    for (int i = 0; i < text.length(); i++) {
      x.add(text.charAt(i));
    }
  }

  /** The row of a way as text: place:length:distance of each piece. */
  static String row(MatchFinders x, int way) {
    StringBuilder row = new StringBuilder();
    for (int i = 0; i < x.pieces(way); i++) {
      row.append(i == 0 ? "" : " ").append(x.piece(way, i, 0)).append(':')
          .append(x.piece(way, i, 1)).append(':').append(x.piece(way, i, 2));
    }
    return row.toString();
  }

  void dueRow(MatchFinders x, int way, String want) {
    String got = row(x, way);
    asked++;
    if (!got.equals(want)) {
      wrong++;
      System.out.println(name + ": the row of way " + way + " is " + got + ", due is " + want);
    }
  }

  void end() {
    System.out.println(name + ": " + (asked - wrong) + " of " + asked + " answers are as due");
    if (wrong != 0) {
      System.exit(1);
    }
  }
}
