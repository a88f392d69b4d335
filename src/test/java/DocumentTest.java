import java.io.IOException;
import java.lang.reflect.Constructor;
import java.lang.reflect.Field;
import java.lang.reflect.Method;
import java.lang.reflect.Modifier;
import java.nio.file.Files;
import java.nio.file.Path;
import java.util.Arrays;
import java.util.LinkedHashMap;
import java.util.Map;
import java.util.Set;
import java.util.TreeMap;
import java.util.TreeSet;
import java.util.regex.Matcher;
import java.util.regex.Pattern;

/**
 * The document from its first line: the face that it prints is the face of the class, each promise has its call, and
 * README.md tells each call with its refusals, and what its example answers. Run in the project's folder.
 */
public final class DocumentTest {
  private static final Path DOCUMENT = Path.of("../shared/DOC.md"), README = Path.of("README.md");
  private static final String[] REFUSALS = {"UNKNOWN", "OUTSIDE", "STATE", "NO", "FULL"};

  private static String read(Path file) throws IOException {
    return Files.isReadable(file) ? Files.readString(file) : "";
  }

  private static String printedFace(String document) {
    Matcher m = Pattern.compile("```java\n(public final class SpunPlates \\{.*?)```", Pattern.DOTALL).matcher(document);
    return m.find() ? m.group(1) : "";
  }

  // ---- "The public face"

  private static void constants(String face) throws IllegalAccessException {
    Map<String, Integer> told = new TreeMap<>();
    Matcher line = Pattern.compile("public static final int ([^;]*);").matcher(face);
    while (line.find()) {
      for (String part : line.group(1).split(",")) {
        String[] sides = part.split("=");
        told.put(sides[0].trim(), Integer.parseInt(sides[1].trim()));
      }
    }
    Due.dueTrue("the document prints constants", !told.isEmpty());
    Map<String, Integer> has = new TreeMap<>();
    for (Field f : SpunPlates.class.getDeclaredFields()) {
      if (Modifier.isPrivate(f.getModifiers())) continue;
      Due.due(f + " is public, static and final", f.getModifiers(), Modifier.PUBLIC | Modifier.STATIC | Modifier.FINAL);
      Due.dueTrue(f + " is an int", f.getType() == int.class);
      has.put(f.getName(), f.getInt(null));
    }
    Due.dueTrue("the document prints the constants " + told + ", the class has " + has, told.equals(has));
  }

  /** Each printed method's name with its types and with its whole head. */
  private static Map<String, String> printedMethods(String face) {
    Map<String, String> all = new LinkedHashMap<>();
    Matcher m = Pattern.compile("public (int \\w+\\([^)]*\\));").matcher(face);
    while (m.find()) all.put(m.group(1).replaceAll("(int|long) \\w+([,)])", "$1$2"), m.group(1));
    return all;
  }

  private static void methods(Map<String, String> printed) {
    Set<String> has = new TreeSet<>();
    for (Method m : SpunPlates.class.getDeclaredMethods()) {
      if (Modifier.isPrivate(m.getModifiers()) || m.isSynthetic()) continue;
      Due.due(m + " is public and no more", m.getModifiers(), Modifier.PUBLIC);
      StringBuilder types = new StringBuilder();
      for (Class<?> c : m.getParameterTypes()) types.append(types.length() == 0 ? "" : ", ").append(c.getName());
      has.add(m.getReturnType().getName() + " " + m.getName() + "(" + types + ")");
    }
    Due.dueTrue("the document prints " + printed.keySet() + ", the class has " + has,
        has.equals(new TreeSet<>(printed.keySet())));
  }

  private static void classAndConstructor() {
    Due.due("public and final", SpunPlates.class.getModifiers(), Modifier.PUBLIC | Modifier.FINAL);
    Due.dueTrue("no class above it", SpunPlates.class.getSuperclass() == Object.class);
    Due.due("no interfaces", SpunPlates.class.getInterfaces().length, 0);
    Constructor<?>[] all = SpunPlates.class.getDeclaredConstructors();
    Due.due("one constructor", all.length, 1);
    Due.due("it is public", all[0].getModifiers(), Modifier.PUBLIC);
    Due.due("without arguments", all[0].getParameterCount(), 0);
  }

  // ---- "Promise 1" to "Promise 28"

  /** For each call's head the words of its promise. */
  private static Map<String, String> promises(String document) {
    Map<String, String> all = new LinkedHashMap<>();
    Matcher m = Pattern.compile("## Promise (\\d+): [^\n]*\n\n`([^`]*)`: ([^\n]*)").matcher(document);
    while (m.find()) {
      all.put(m.group(2), m.group(3));
      Due.due("the number of the promise of " + m.group(2), Integer.parseInt(m.group(1)), all.size());
    }
    return all;
  }

  private static void promisesAreOfTheFace(Map<String, String> promises, Map<String, String> printed) {
    Due.due("promises", promises.size(), 28);
    Set<String> calls = new TreeSet<>(printed.values());
    calls.add("SpunPlates()");
    Due.dueTrue("a promise for each call", calls.equals(new TreeSet<>(promises.keySet())));
    Set<String> tried = new TreeSet<>(Arrays.asList(Calls.NAMES));
    for (String head : printed.values()) {
      Due.dueTrue(head + " is tried at its edges", tried.contains(head.substring(4, head.indexOf('('))));
    }
  }

  // ---- README.md

  private static boolean names(String text, String refusal) {
    return Pattern.compile("\\b" + refusal + "\\b").matcher(text).find();
  }

  /** What may refuse a call stands in the last column of its row, and nothing else. */
  private static void readmeTellsEachCall(String readme, Map<String, String> promises) {
    for (Map.Entry<String, String> promise : promises.entrySet()) {
      String call = promise.getKey().replaceFirst("^int ", "");
      Matcher row = Pattern.compile("\\| `" + Pattern.quote(call) + "` \\| (.+) \\| ?(.*) ?\\|\n").matcher(readme);
      boolean found = row.find();
      Due.dueTrue("README.md has a row for " + call, found);
      if (!found) continue;
      // FULL as a refusal ends the promise; elsewhere it is what a plate is at its most.
      String words = promise.getValue().replaceFirst("^A PLATE, FULL", "").replaceAll("1 FULL", "");
      for (String refusal : REFUSALS) {
        Due.dueTrue("README.md names " + refusal + " at " + call + " as the document does",
            names(words, refusal) == names(row.group(2), refusal));
      }
    }
  }

  private static int number(String text) {
    return text.startsWith("'") ? text.charAt(1) : Integer.parseInt(text);
  }

  private static void readmeRunsAsItSays(String readme) {
    SpunPlates x = new SpunPlates();
    Matcher line = Pattern.compile("\nx\\.(\\w+)\\(([^)]*)\\); +// (-?\\d+)").matcher(readme);
    int found = 0;
    while (line.find()) {
      found++;
      String[] parts = line.group(2).isEmpty() ? new String[0] : line.group(2).split(", ");
      int[] numbers = new int[3];
      for (int i = 0; i < parts.length; i++) numbers[i] = number(parts[i]);
      int answer = Calls.of(x, Calls.numberOf(line.group(1)), numbers);
      Due.due("README.md: x." + line.group(1) + "(" + line.group(2) + ")", answer, Integer.parseInt(line.group(3)));
    }
    Due.dueTrue("README.md has an example", found >= 10);
  }

  public static void main(String[] args) throws IOException, IllegalAccessException {
    String document = read(DOCUMENT);
    String readme = read(README);
    classAndConstructor();
    readmeRunsAsItSays(readme);
    if (document.isEmpty()) {
      System.out.println("the document is not at " + DOCUMENT);
    } else {
      String face = printedFace(document);
      Map<String, String> printed = printedMethods(face);
      Map<String, String> promises = promises(document);
      constants(face);
      methods(printed);
      promisesAreOfTheFace(promises, printed);
      readmeTellsEachCall(readme, promises);
    }
    Due.end("DocumentTest");
  }
}
