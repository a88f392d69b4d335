import java.io.IOException;
import java.lang.reflect.Field;
import java.lang.reflect.Method;
import java.lang.reflect.Modifier;
import java.nio.file.Files;
import java.nio.file.Path;
import java.util.Arrays;
import java.util.HashSet;
import java.util.Set;
import java.util.TreeSet;
import java.util.regex.Matcher;
import java.util.regex.Pattern;

/** What can be seen of the rules of LANGUAGE.md in the class and in its text; run in the project's folder. */
public final class LanguageTest {
  private static final String[] FACE = {"plate 3", "turn 2", "set 2", "about 2", "tick 1", "say 1", "wipe 0", "fault 0",
      "judge 1", "show 0", "lasts 1", "at 3", "round 2", "sticks 2", "kept 0", "longest 0", "step 0", "bow 1", "gasps 2",
      "load 1", "setUp 1", "bestOrder 0", "film 1", "whose 0", "image 1", "restore 1", "told 1"};
  private static final String[] CONSTANTS = {"UNKNOWN", "OUTSIDE", "STATE", "FULL", "NO", "NONE"};
  private static final String[] FORBIDDEN = {"\\bthrows?\\b", "\\btry\\b", "\\bcatch\\b", "\\bsynchronized\\b",
      "\\bassert\\b", "->", "::", "\\bpackage\\b", "Exact\\(", "\\bSystem\\.(?!arraycopy\\b)", "\\bobject\\b",
      "\\bObject\\b", "\\bhashCode\\b", "\\btoString\\b", "\\bwhile \\(true\\)", "for \\(;;\\)", "\\bvolatile\\b",
      "\\bnative\\b", "@\\w+", "\\bvar\\b", "\\bfinalize\\b", "\\bThread\\b"};

  private static void face() {
    Set<String> open = new TreeSet<>();
    Set<String> names = new HashSet<>();
    for (Method m : SpunPlates.class.getDeclaredMethods()) {
      if (m.isSynthetic()) continue;
      if (!Modifier.isPrivate(m.getModifiers())) {
        open.add(m.getName() + " " + m.getParameterCount());
        names.add(m.getName());
        Due.dueTrue(m + " answers an int", m.getReturnType() == int.class && Modifier.isPublic(m.getModifiers()));
      }
    }
    Due.dueTrue("the face is " + open, open.equals(new TreeSet<>(Arrays.asList(FACE))));
    for (Method m : SpunPlates.class.getDeclaredMethods()) {
      if (Modifier.isPrivate(m.getModifiers())) Due.dueTrue(m + " has its own name", !names.contains(m.getName()));
    }
    Set<String> fields = new TreeSet<>();
    for (Field f : SpunPlates.class.getDeclaredFields()) {
      if (!Modifier.isPrivate(f.getModifiers())) fields.add(f.getName());
    }
    Due.dueTrue("the constants are " + fields, fields.equals(new TreeSet<>(Arrays.asList(CONSTANTS))));
    Due.dueTrue("final", Modifier.isFinal(SpunPlates.class.getModifiers()));
    Due.due("constructors", SpunPlates.class.getDeclaredConstructors().length, 1);
    Due.dueTrue("a public constructor", Modifier.isPublic(SpunPlates.class.getDeclaredConstructors()[0].getModifiers()));
  }

  private static void classes() {
    Class<?>[] inside = SpunPlates.class.getDeclaredClasses();
    Due.dueTrue("some twelve classes", inside.length < 12);
    for (Class<?> c : inside) {
      int mods = c.getModifiers();
      Due.dueTrue(c + " is static, not open", Modifier.isStatic(mods) && !Modifier.isPublic(mods) && !Modifier.isProtected(mods));
      fieldsAndMethods(c);
    }
    fieldsAndMethods(SpunPlates.class);
  }

  private static void fieldsAndMethods(Class<?> c) {
    int own = 0;
    for (Field f : c.getDeclaredFields()) {
      if (Modifier.isStatic(f.getModifiers())) Due.dueTrue(f + " is final", Modifier.isFinal(f.getModifiers()));
      else own++;
    }
    Due.dueTrue(c + " has some twenty fields", own <= 20);
    for (Method m : c.getDeclaredMethods()) Due.dueTrue(m + " takes seven at most", m.getParameterCount() <= 7);
  }

  private static String withoutComments(String text) {
    return Pattern.compile("/\\*.*?\\*/|//[^\n]*", Pattern.DOTALL).matcher(text).replaceAll("");
  }

  private static void words(String text) {
    for (String word : FORBIDDEN) {
      Matcher m = Pattern.compile(word).matcher(text);
      if (m.find()) Due.dueTrue("the text has " + m.group(), false);
    }
    Matcher imports = Pattern.compile("import ([^;]*);").matcher(text);
    while (imports.find()) {
      Due.dueTrue("import " + imports.group(1), imports.group(1).matches("java\\.util\\.(Arrays|ArrayList|List|Iterator)"));
    }
    Due.dueTrue("plain signs", text.chars().allMatch(c -> c == '\n' || (c >= 32 && c < 127)));
  }

  private static void lengths(String text) {
    Matcher m = Pattern.compile("\n( *)(?:[\\w\\[\\]]+ )+(\\w+)\\([^)]*\\) \\{\n(.*?)\n\\1\\}", Pattern.DOTALL).matcher(text);
    int from = 0;
    int found = 0;
    while (m.find(from)) {
      found++;
      int lines = m.group(3).split("\n").length;
      if (lines > 60) Due.dueTrue(m.group(2) + " has " + lines + " lines", false);
      from = m.start() + 1;
    }
    Due.dueTrue("methods were found", found > 60);
  }

  public static void main(String[] args) throws IOException {
    face();
    classes();
    String text = withoutComments(Files.readString(Path.of("src/main/java/SpunPlates.java")));
    words(text);
    lengths(text);
    Due.end("LanguageTest");
  }
}
