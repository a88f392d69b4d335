import java.io.IOException;
import java.lang.reflect.Field;
import java.lang.reflect.Method;
import java.lang.reflect.Modifier;
import java.nio.file.Files;
import java.nio.file.Path;
import java.util.Arrays;
import java.util.HashSet;
import java.util.Map;
import java.util.Set;
import java.util.TreeMap;
import java.util.TreeSet;
import java.util.regex.Matcher;
import java.util.regex.Pattern;

/** What can be seen of the rules of LANGUAGE.md in the class and in its text; run in the project's folder. */
public final class LanguageTest {
  private static final String[] FACE = {"plate 3", "turn 2", "set 2", "about 2", "tick 1", "say 1", "wipe 0", "fault 0",
      "judge 1", "show 0", "lasts 1", "at 3", "round 2", "sticks 2", "kept 0", "longest 0", "step 0", "bow 1", "gasps 2",
      "load 1", "setUp 1", "bestOrder 0", "film 1", "whose 0", "image 1", "restore 1", "told 1"};
  private static final String[] CONSTANTS = {"UNKNOWN", "OUTSIDE", "STATE", "FULL", "NO", "NONE"};
  private static final String[] FORBIDDEN = {"\\bthrows?\\b", "\\btry\\b", "\\bcatch\\b", "\\bsynchronized\\b",
      "\\bassert\\b", "->", "::", "\\bpackage\\b", "Exact\\(", "\\bSystem\\.(?!arraycopy\\b)", "\\bobject\\b",
      "\\bObject\\b", "\\bhashCode\\b", "\\btoString\\b", "\\bwhile \\(true\\)", "for \\(;;\\)", "\\bvolatile\\b",
      "\\bnative\\b", "@\\w+", "\\bvar\\b", "\\bfinalize\\b", "\\bThread\\b"};

  private static final Set<Class<?>> STATIC_TYPES = Set.of(int.class, long.class, boolean.class, char.class, String.class,
      int[].class, long[].class, char[].class, byte[].class);
  /** What of the library the class may name, with a dot behind it. */
  private static final String LIBRARY = "System\\.arraycopy|Arrays\\.(fill|copyOf|copyOfRange)"
      + "|(Math|Integer|Long)\\.(min|max|abs|compare|bitCount|floorDiv|floorMod|signum|numberOfTrailingZeros)";
  private static final Pattern METHOD = Pattern.compile(
      "\n( *)(?:[\\w\\[\\]]+ )+(\\w+)\\([^)]*\\) \\{\n(.*?)\n\\1\\}", Pattern.DOTALL);

  private static void face() {
    Set<String> open = new TreeSet<>();
    Set<String> names = new HashSet<>();
    for (Method m : SpunPlates.class.getDeclaredMethods()) {
      if (m.isSynthetic()) continue;
      if (!Modifier.isPrivate(m.getModifiers())) {
        open.add(m.getName() + " " + m.getParameterCount());
        names.add(m.getName());
        Due.dueTrue(m + " answers an int", m.getReturnType() == int.class && Modifier.isPublic(m.getModifiers()));
      }
    }
    Due.dueTrue("the face is " + open, open.equals(new TreeSet<>(Arrays.asList(FACE))));
    for (Method m : SpunPlates.class.getDeclaredMethods()) {
      if (Modifier.isPrivate(m.getModifiers())) Due.dueTrue(m + " has its own name", !names.contains(m.getName()));
    }
    Set<String> fields = new TreeSet<>();
    for (Field f : SpunPlates.class.getDeclaredFields()) {
      if (!Modifier.isPrivate(f.getModifiers())) fields.add(f.getName());
    }
    Due.dueTrue("the constants are " + fields, fields.equals(new TreeSet<>(Arrays.asList(CONSTANTS))));
    Due.dueTrue("final", Modifier.isFinal(SpunPlates.class.getModifiers()));
    Due.due("constructors", SpunPlates.class.getDeclaredConstructors().length, 1);
    Due.dueTrue("a public constructor", Modifier.isPublic(SpunPlates.class.getDeclaredConstructors()[0].getModifiers()));
  }

  private static void classes() {
    Class<?>[] inside = SpunPlates.class.getDeclaredClasses();
    Due.dueTrue("some twelve classes", inside.length < 12);
    for (Class<?> c : inside) {
      int mods = c.getModifiers();
      Due.dueTrue(c + " is static, not open", Modifier.isStatic(mods) && !Modifier.isPublic(mods) && !Modifier.isProtected(mods));
      fieldsAndMethods(c);
    }
    fieldsAndMethods(SpunPlates.class);
  }

  private static void fieldsAndMethods(Class<?> c) {
    int own = 0;
    for (Field f : c.getDeclaredFields()) {
      if (Modifier.isStatic(f.getModifiers())) {
        Due.dueTrue(f + " is final", Modifier.isFinal(f.getModifiers()));
        Due.dueTrue(f + " is of a kind that rule 5 allows", STATIC_TYPES.contains(f.getType()));
      } else {
        own++;
      }
    }
    Due.dueTrue(c + " has some twenty fields", own <= 20);
    for (Method m : c.getDeclaredMethods()) Due.dueTrue(m + " takes seven at most", m.getParameterCount() <= 7);
  }

  private static String withoutComments(String text) {
    return Pattern.compile("/\\*.*?\\*/|//[^\n]*", Pattern.DOTALL).matcher(text).replaceAll("");
  }

  private static void words(String text) {
    for (String word : FORBIDDEN) {
      Matcher m = Pattern.compile(word).matcher(text);
      if (m.find()) Due.dueTrue("the text has " + m.group(), false);
    }
    Matcher imports = Pattern.compile("import ([^;]*);").matcher(text);
    while (imports.find()) {
      Due.dueTrue("import " + imports.group(1), imports.group(1).matches("java\\.util\\.(Arrays|ArrayList|List|Iterator)"));
    }
    Due.dueTrue("plain signs", text.chars().allMatch(c -> c == '\n' || (c >= 32 && c < 127)));
  }

  /** Names with a great first letter and a dot behind them are the library's, or classes inside. */
  private static void library(String text) {
    Set<String> inside = new HashSet<>();
    for (Class<?> c : SpunPlates.class.getDeclaredClasses()) inside.add(c.getSimpleName());
    String body = text.replaceAll("import [^;]*;", "");
    Matcher m = Pattern.compile("(?<![\\w.])([A-Z]\\w*[a-z]\\w*)\\.(\\w+)").matcher(body);
    while (m.find()) Due.dueTrue(m.group(), inside.contains(m.group(1)) || m.group().matches(LIBRARY));
    Matcher made = Pattern.compile("\\bnew (\\w+)").matcher(body);
    while (made.find()) Due.dueTrue(made.group(), inside.contains(made.group(1)) || made.group(1).equals("int"));
  }

  /** Rule 5: rows that all objects share are written out where they are declared, and never changed. */
  private static void sharedRows(String text) {
    Matcher m = Pattern.compile("static final \\w+\\[\\] (\\w+) = (.)").matcher(text);
    while (m.find()) {
      Due.dueTrue(m.group(1) + " is written out", m.group(2).equals("{"));
      String written = "\\b" + m.group(1) + "\\[[^;]*\\] *([-+*/|&^]?=[^=]|\\+\\+|--)|fill\\(" + m.group(1) + "\\b";
      Due.dueTrue(m.group(1) + " is never changed", !Pattern.compile(written).matcher(text).find());
    }
    Due.dueTrue("no static block", !Pattern.compile("\\bstatic \\{").matcher(text).find());
    Due.dueTrue("no texts to be joined", text.indexOf('"') < 0);
    Due.dueTrue("no broken numbers", !Pattern.compile("\\b(double|float)\\b").matcher(text).find());
  }

  /** For each method's name its body; methods of one name in several classes are taken together. */
  private static Map<String, String> bodies(String text) {
    Map<String, String> all = new TreeMap<>();
    Matcher m = METHOD.matcher(text);
    for (int from = 0; m.find(from); from = m.start() + 1) all.merge(m.group(2), m.group(3), (a, b) -> a + "\n" + b);
    return all;
  }

  private static void lengths(String text) {
    Matcher m = METHOD.matcher(text);
    int found = 0;
    for (int from = 0; m.find(from); from = m.start() + 1) {
      found++;
      int lines = m.group(3).split("\n").length;
      if (lines > 60) Due.dueTrue(m.group(2) + " has " + lines + " lines", false);
    }
    Due.dueTrue("methods were found", found > 60);
  }

  /** How many calls stand open at most from here on; more than a hundred: it comes back to itself. */
  private static int depth(String name, Map<String, String> bodies, int open) {
    if (open > 100) return open;
    int deepest = open;
    for (String other : bodies.keySet()) {
      if (deepest > 100) break;
      if (Pattern.compile("\\b" + other + "\\(").matcher(bodies.get(name)).find()) {
        deepest = Math.max(deepest, depth(other, bodies, open + 1));
      }
    }
    return deepest;
  }

  /** Rules 8 and 11: the class has no recursion at all, and its calls go at most eight deep. */
  private static void depths(String text) {
    Map<String, String> bodies = bodies(text);
    for (String call : FACE) {
      String name = call.substring(0, call.indexOf(' '));
      Due.dueTrue(name + " was found", bodies.containsKey(name));
      if (!bodies.containsKey(name)) continue;
      int depth = depth(name, bodies, 1);
      Due.dueTrue(name + " goes " + depth + " deep", depth <= 8);
    }
  }

  public static void main(String[] args) throws IOException {
    face();
    classes();
    String text = withoutComments(Files.readString(Path.of("src/main/java/SpunPlates.java")));
    words(text);
    library(text);
    sharedRows(text);
    lengths(text);
    depths(text);
    Due.end("LanguageTest");
  }
}
