import java.io.IOException;
import java.lang.reflect.Constructor;
import java.lang.reflect.Field;
import java.lang.reflect.Method;
import java.lang.reflect.Modifier;
import java.nio.file.Files;
import java.nio.file.Path;
import java.util.Set;
import java.util.TreeSet;

/** The face of the document, no more and no less, and what LANGUAGE.md lets a scan of the source see. */
public final class FaceTest {
  private static final Due DUE = new Due("FaceTest");
  private static final Set<String> FACE = new TreeSet<>(Set.of(
      "add(int)", "fill(int,int,int)", "clear()", "dictionary()", "size(int)", "octet(int)", "longest(int,int)",
      "chained(int,int)", "front(int,int,int)", "pieces(int)", "piece(int,int,int)", "bits(int,int)", "repeats(int)",
      "share(int)"));
  private static final String[] NOT_ALLOWED = {"import", "package", "->", "::", "catch", "finally", "synchronized",
      "assert", "Exact", "static {", "getMessage", "System.", "protected"};

  public static void main(String[] args) throws IOException {
    methods();
    othersArePrivate();
    nestedClasses();
    source();
    DUE.end();
  }

  private static String signature(Method m) {
    StringBuilder s = new StringBuilder(m.getName()).append('(');
    for (Class<?> type : m.getParameterTypes()) {
      s.append(s.charAt(s.length() - 1) == '(' ? "" : ",").append(type.getName());
    }
    return s.append(')').toString();
  }

  private static void methods() {
    Set<String> found = new TreeSet<>();
    Set<String> publicNames = new TreeSet<>();
    for (Method m : MatchFinders.class.getDeclaredMethods()) {
      if (Modifier.isPublic(m.getModifiers())) {
        found.add(signature(m));
        publicNames.add(m.getName());
        DUE.holds(signature(m) + " answers an int", m.getReturnType() == int.class);
        boolean share = m.getName().equals("share");
        DUE.due(signature(m) + " throws", m.getExceptionTypes().length, share ? 1 : 0);
      }
    }
    DUE.holds("the public methods are " + FACE + ": " + found, found.equals(FACE));
    for (Class<?> c : MatchFinders.class.getDeclaredClasses()) {
      for (Method m : c.getDeclaredMethods()) {
        DUE.holds(m + " bears no public name", !publicNames.contains(m.getName()));
      }
    }
  }

  private static void othersArePrivate() {
    int modifiers = MatchFinders.class.getModifiers();
    DUE.holds("public and final", Modifier.isPublic(modifiers) && Modifier.isFinal(modifiers));
    Constructor<?>[] constructors = MatchFinders.class.getDeclaredConstructors();
    DUE.due("constructors", constructors.length, 1);
    DUE.holds("it is public", Modifier.isPublic(constructors[0].getModifiers()));
    for (Field f : MatchFinders.class.getDeclaredFields()) {
      DUE.holds(f + " is private", Modifier.isPrivate(f.getModifiers()));
      DUE.holds(f + " is final if static", !Modifier.isStatic(f.getModifiers()) || Modifier.isFinal(f.getModifiers()));
    }
    for (Method m : MatchFinders.class.getDeclaredMethods()) {
      boolean ours = FACE.contains(signature(m));
      DUE.holds(m + " is private or of the face", ours || Modifier.isPrivate(m.getModifiers()));
    }
  }

  private static void nestedClasses() {
    Class<?>[] nested = MatchFinders.class.getDeclaredClasses();
    DUE.holds("at most twelve classes", nested.length < 12);
    for (Class<?> c : nested) {
      int m = c.getModifiers();
      DUE.holds(c + " is static and not public", Modifier.isStatic(m) && !Modifier.isPublic(m) && !Modifier.isProtected(m));
      DUE.holds(c + " has at most twenty fields", c.getDeclaredFields().length <= 20);
    }
  }

  private static void source() throws IOException {
    String path = System.getProperty("source", "src/main/java/MatchFinders.java");
    String code = Files.readString(Path.of(path));
    String bare = code.replaceAll("(?s)/\\*.*?\\*/", "").replaceAll("//[^\n]*", "");
    for (String word : NOT_ALLOWED) {
      DUE.holds("the source has no '" + word + "'", !bare.contains(word));
    }
    DUE.holds("---- matches stands ahead of longest", stands(code, "octet(", "// ---- matches", "longest("));
    DUE.holds("---- pieces stands ahead of pieces", stands(code, "front(", "// ---- pieces", "pieces("));
    DUE.due("throw statements", bare.split("throw new", -1).length - 1, 1);
  }

  /** Whether a comment stands between two calls of the face. */
  private static boolean stands(String code, String before, String comment, String behind) {
    int at = code.indexOf(comment);
    return code.indexOf("public int " + before) < at && at < code.indexOf("public int " + behind);
  }
}
