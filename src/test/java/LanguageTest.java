import java.io.IOException;
import java.lang.reflect.Constructor;
import java.lang.reflect.Field;
import java.lang.reflect.Method;
import java.lang.reflect.Modifier;
import java.nio.file.Files;
import java.nio.file.Path;
import java.util.ArrayList;
import java.util.List;
import java.util.Map;
import java.util.Set;
import java.util.TreeMap;
import java.util.TreeSet;
import java.util.regex.Matcher;
import java.util.regex.Pattern;

/** The document's public face, and those rules of LANGUAGE.md that a look at the class and its source can tell. */
public final class LanguageTest {
  private static final Check check = new Check();
  private static final String[] FACE = {
    "int house(int, int, int)", "int houseOf(int, int)", "int dry(int)", "int now(int)", "int sneezer(int, int)",
    "int of(int, int)", "int set(int, int, int)", "int turn(int, int)", "int as(int, int)", "int minutes(int)",
    "int on(int, int, int)", "int then(int, int, int)", "int lit(int, int)", "int goes(int)", "int well()",
    "int feather(int)", "int seat(int, int)", "int kind(int, int)", "int driest(int, int)", "int needs(int, int, int)",
    "int dear(int)", "int open(int)", "int feed(int, int)", "int wipe()", "int winter()", "int sheet(int, int, int)",
    "long write(int, int, long)", "int copy(int, int, int, int, int)", "int lays(int)", "int book(int, int)",
    "int read(int, int)", "int image()", "int undo()", "int tear()", "int count(int)", "int status(int)",
  };
  private static final String[] NOT_ALLOWED = {
    "\\bthrow\\b", "\\bthrows\\b", "\\btry\\b", "\\bcatch\\b", "\\bsynchronized\\b", "\\bassert\\b", "\\bimport\\b", "\\bpackage\\b",
    "->", "::", "\\bdouble\\b", "\\bfloat\\b", "\\bequals\\b", "\\bhashCode\\b", "\\btoString\\b", "Exact\\b", "\\bObject\\b",
    "\\bpublic static\\b", "\\bprotected\\b", "\\bThread\\b", "\\bRandom\\b", "\\bnanoTime\\b", "\\bcurrentTimeMillis\\b",
  };

  private static final Set<Class<?>> CONSTANTS = Set.of(int.class, long.class, boolean.class, char.class, String.class,
      int[].class, long[].class, char[].class, byte[].class);

  public static void main(String[] args) throws IOException {
    face();
    members();
    source(Files.readString(Path.of("src/main/java/SneezeLights.java")));
    check.end();
  }

  private static String told(Method m) {
    List<String> types = new ArrayList<>();
    for (Class<?> type : m.getParameterTypes()) {
      types.add(type.getName());
    }
    return m.getReturnType().getName() + " " + m.getName() + "(" + String.join(", ", types) + ")";
  }

  private static void face() {
    Set<String> due = new TreeSet<>(List.of(FACE));
    Set<String> is = new TreeSet<>();
    for (Method m : SneezeLights.class.getDeclaredMethods()) {
      if (!Modifier.isPrivate(m.getModifiers())) {
        is.add(told(m));
        check.holds(m.getName() + " is public and no more", m.getModifiers() == Modifier.PUBLIC);
      }
    }
    check.holds("the face is the document's: " + is, due.equals(is));
    check.due("the class", SneezeLights.class.getModifiers(), Modifier.PUBLIC | Modifier.FINAL);
    Constructor<?>[] made = SneezeLights.class.getDeclaredConstructors();
    check.due("one constructor", made.length, 1);
    check.due("without arguments", made[0].getParameterCount(), 0);
    check.due("that is public", made[0].getModifiers(), Modifier.PUBLIC);
  }

  private static Set<String> faceNames() {
    Set<String> names = new TreeSet<>();
    for (String call : FACE) {
      names.add(call.substring(call.indexOf(' ') + 1, call.indexOf('(')));
    }
    return names;
  }

  private static void members() {
    Set<String> names = faceNames();
    List<Class<?>> all = new ArrayList<>(List.of(SneezeLights.class.getDeclaredClasses()));
    for (Class<?> inside : all) {
      check.holds(inside + " is static", Modifier.isStatic(inside.getModifiers()));
      for (Method m : inside.getDeclaredMethods()) {
        check.holds(m + " bears no name of the face", !names.contains(m.getName()));
        check.holds(m + " takes seven at most", m.getParameterCount() <= 7);
      }
    }
    all.add(SneezeLights.class);
    check.holds("twelve classes at most", all.size() <= 12);
    for (Class<?> c : all) {
      int fields = 0;
      for (Field f : c.getDeclaredFields()) {
        boolean isStatic = Modifier.isStatic(f.getModifiers());
        fields += isStatic ? 0 : 1;
        check.holds(f + " is final if it is static", !isStatic || Modifier.isFinal(f.getModifiers()));
        check.holds(f + " is a constant if it is static", !isStatic || CONSTANTS.contains(f.getType()));
        check.holds(f + " is private", c != SneezeLights.class || Modifier.isPrivate(f.getModifiers()));
      }
      check.holds(c + " has twenty fields at most", fields <= 20);
    }
    for (Method m : SneezeLights.class.getDeclaredMethods()) {
      boolean isPrivate = Modifier.isPrivate(m.getModifiers());
      check.holds(m + " bears no name of the face", !isPrivate || !names.contains(m.getName()));
    }
  }

  private static void source(String text) {
    String code = text.replaceAll("(?s)/\\*.*?\\*/", "").replaceAll("//[^\n]*", "").replaceAll("\"[^\"\n]*\"", "\"\"");
    for (String word : NOT_ALLOWED) {
      Matcher m = Pattern.compile(word).matcher(code);
      check.holds("no " + word + " in the source", !m.find());
    }
    // What is made, is made with the object: a run's calls make nothing more.
    Matcher made = Pattern.compile("(?m)^.*\\bnew \\w+.*$").matcher(code);
    while (made.find()) {
      check.holds("a field is what is made by " + made.group().trim(), made.group().contains("final"));
    }
    check.holds("signs 1 to 127 alone", text.chars().allMatch(c -> c >= 1 && c <= 127));
    methods(code);
  }

  /** The bodies of all methods by their names, which no two methods share here. */
  private static Map<String, String> bodies(String code) {
    Map<String, String> bodies = new TreeMap<>();
    Matcher m = Pattern.compile("(?m)^(  |    )(?:\\w+ )*[\\w\\[\\]]+ (\\w+)\\([^()]*\\) \\{\n((?:\\1 .*\n|\n)*)\\1\\}").matcher(code);
    while (m.find()) {
      check.holds("one method alone is " + m.group(2), bodies.put(m.group(2), m.group(3)) == null);
    }
    return bodies;
  }

  private static void methods(String code) {
    Map<String, String> bodies = bodies(code);
    check.holds("all methods are found", bodies.keySet().containsAll(faceNames()) && bodies.size() > FACE.length);
    for (String name : bodies.keySet()) {
      check.holds(name + " has sixty lines at most", bodies.get(name).split("\n").length <= 60);
      check.holds(name + " calls at most eight deep", depth(name, bodies, 1) <= 8);
    }
  }

  /** How many calls stand open at once at the most; a call that comes back to itself is cut at 12. */
  private static int depth(String name, Map<String, String> bodies, int above) {
    int deepest = above;
    Matcher m = Pattern.compile("\\b(\\w+)\\(").matcher(bodies.get(name));
    while (m.find() && above < 12) {
      if (bodies.containsKey(m.group(1))) {
        deepest = Math.max(deepest, depth(m.group(1), bodies, above + 1));
      }
    }
    return deepest;
  }
}
