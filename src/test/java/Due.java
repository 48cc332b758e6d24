import java.io.IOException;
import java.nio.file.Files;
import java.nio.file.Path;
import java.util.Set;
import java.util.TreeSet;

/**
 * Counts the answers of one test and prints each that is not the one that is due, with the promise
 * and the sentence of the document that is broken by it.
 */
final class Due {
  private final String name;
  private final String document;
  private final Set<Integer> promises = new TreeSet<>();
  private String sentence = "";
  private int sentences = 0;
  private int asked = 0;
  private int wrong = 0;

  Due(String name) {
    this.name = name;
    this.document = read(System.getProperty("document", "../shared/DOC.md"));
    Thread.setDefaultUncaughtExceptionHandler((thread, thrown) -> stop(thrown));
  }

  /** Nothing but share's exception may come from a call. */
  private void stop(Throwable thrown) {
    System.out.println(name + sentence + ": " + Calls.last() + " ended the test");
    thrown.printStackTrace(System.out);
    System.exit(1);
  }

  private static String read(String path) {
    try {
      return plain(Files.readString(Path.of(path)));
    } catch (IOException e) {
      System.out.println("there is no document at " + path);
      return "";
    }
  }

  private static String plain(String words) {
    return words.replaceAll("\\s+", " ");
  }

  /**
   * What follows tests these words of a promise. They must stand in the promise's own section, or
   * ahead of all promises, where the terms are, so that no test outlives its sentence.
   */
  void sentence(int promise, String words) {
    sentence = ", promise " + promise + ", \"" + words + "\"";
    sentences++;
    promises.add(promise);
    int terms = document.indexOf("## Promise 1:");
    int from = document.indexOf("## Promise " + promise + ":");
    int next = document.indexOf("## ", from + 3);
    boolean told = document.isEmpty() || from >= 0 && next >= 0
        && (document.substring(from, next).contains(plain(words)) || document.substring(0, terms).contains(plain(words)));
    holds("the document says so", told);
  }

  /** The answer of the call made last. */
  void due(long got, long want) {
    due(Calls.last(), got, want);
  }

  void due(String what, long got, long want) {
    asked++;
    if (got != want) {
      wrong++;
      System.out.println(name + sentence + ": " + what + " answered " + told(got) + ", due is " + told(want));
    }
  }

  private static String told(long answer) {
    if (answer == Calls.MACHINE_THROWS) {
      return "the machine's own ArithmeticException";
    }
    return answer == Calls.THROWS ? "throws.ArithmeticException" : Long.toString(answer);
  }

  void holds(String what, boolean held) {
    due(what + " (1 yes, 0 no)", held ? 1 : 0, 1);
  }

  void same(String what, String got, String want) {
    asked++;
    if (!got.equals(want)) {
      wrong++;
      System.out.println(name + sentence + ": " + what + " is " + got + ", due is " + want);
    }
  }

  void row(Calls x, int way, String want) {
    same("the row of way " + way, x.row(way), want);
  }

  /** As end, and fails if one of these promises has no sentence tested. */
  void end(int firstPromise, int lastPromise) {
    sentence = "";
    for (int promise = firstPromise; promise <= lastPromise; promise++) {
      holds("promise " + promise + " is tested", promises.contains(promise));
    }
    end();
  }

  void end() {
    System.out.println(name + ": " + (asked - wrong) + " of " + asked + " answers are as due"
        + (sentences == 0 ? "" : ", " + sentences + " sentences of promises " + promises));
    if (wrong != 0) {
      System.exit(1);
    }
  }
}
