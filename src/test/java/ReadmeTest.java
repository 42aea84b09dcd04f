import java.io.IOException;
import java.nio.file.Files;
import java.nio.file.Path;
import java.util.List;
import java.util.Map;
import java.util.Set;
import java.util.TreeSet;
import java.util.regex.Matcher;
import java.util.regex.Pattern;

/** What README.md shows: each call of its examples answers what stands behind it, and each call of the face is shown. */
public final class ReadmeTest {
  private static final Check check = new Check();
  private static final Pattern CALL = Pattern.compile("street\\.(\\w+)\\(([^)]*)\\); +// (-?\\d+|[A-Z]+)(?:: .+)?");
  private static final Map<String, Integer> FINDINGS = Map.of("BEYOND", Check.BEYOND, "FULL", Check.FULL, "KIND", Check.KIND,
      "NONE", Check.NONE, "STATE", Check.STATE, "MISSING", Check.MISSING, "SIZE", Check.SIZE);

  private static final Set<String> shown = new TreeSet<>();

  public static void main(String[] args) throws IOException {
    List<String> lines = Files.readAllLines(Path.of("README.md"));
    examples(lines);
    eachIsShown();
    values(lines);
    check.end();
  }

  private static void examples(List<String> lines) {
    SneezeLights street = null;
    boolean isExample = false;
    for (String line : lines) {
      if (line.startsWith("```")) {
        isExample = line.equals("```java");
      } else if (isExample && line.equals("SneezeLights street = new SneezeLights();")) {
        street = new SneezeLights();
      } else if (isExample) {
        example(street, line);
      }
    }
  }

  private static void example(SneezeLights street, String line) {
    Matcher m = CALL.matcher(line);
    check.holds("it is a call with its answer: " + line, m.matches());
    if (m.matches()) {
      shown.add(m.group(1));
      Integer finding = FINDINGS.get(m.group(3));
      long due = finding != null ? finding : Long.parseLong(m.group(3));
      check.due(line, Calls.call(street, told(m.group(1), m.group(2))), due);
    }
  }

  /** The call as Calls takes it; README has bytes in hexadecimal digits. */
  private static String told(String name, String given) {
    StringBuilder told = new StringBuilder(name);
    for (String number : given.isEmpty() ? new String[0] : given.split(", ")) {
      told.append(' ').append(Long.decode(number));
    }
    return told.toString();
  }

  private static void eachIsShown() {
    for (java.lang.reflect.Method m : SneezeLights.class.getMethods()) {
      if (m.getDeclaringClass() == SneezeLights.class) {
        check.holds(m.getName() + " is shown in README.md", shown.contains(m.getName()));
      }
    }
  }

  private static void values(List<String> lines) {
    for (String name : FINDINGS.keySet()) {
      String row = "| " + name + " | " + FINDINGS.get(name) + " |";
      check.holds("README.md tells " + row, lines.stream().anyMatch(line -> line.startsWith(row)));
    }
  }
}
