import java.io.IOException;
import java.nio.file.Files;
import java.nio.file.Path;

/** What the tests of the document's sentences share: the sentence at hand, and short ways to set a stage. */
final class Edge {
  static final int UNKNOWN = -1, OUTSIDE = -2, STATE = -3, FULL = -4, NO = -5, NONE = -6;
  static final int LOWEST = Integer.MIN_VALUE, HIGHEST = Integer.MAX_VALUE;

  private static final String DOCUMENT = plain(read(Path.of("../shared/DOC.md")));
  private static String sentence = "";

  private Edge() {
  }

  private static String read(Path file) {
    try {
      return Files.isReadable(file) ? Files.readString(file) : "";
    } catch (IOException e) {
      return "";
    }
  }

  private static String plain(String text) {
    return text.replace("&lt;", "<").replace("&gt;", ">").replace("`", "").replaceAll("\\s+", " ");
  }

  /**
   * The words of the document that are tried from here on; they stand ahead of each answer that is not as due.
   * Words that the document no longer has are told, but are no fault of the class.
   */
  static void says(String words) {
    sentence = words;
    if (!DOCUMENT.isEmpty() && !DOCUMENT.contains(plain(words))) {
      System.out.println("the document does not say: " + words);
    }
  }

  static void due(String call, int got, int want) {
    Due.due("\"" + sentence + "\": " + call, got, want);
  }

  /** Plates as triples of place, full, falls. */
  static SpunPlates with(int... plates) {
    SpunPlates x = new SpunPlates();
    for (int i = 0; i + 2 < plates.length; i += 3) {
      due("plate " + i / 3, x.plate(plates[i], plates[i + 1], plates[i + 2]), i / 3);
    }
    return x;
  }

  static void turns(SpunPlates x, int... turns) {
    for (int p = 0; p < turns.length; p++) {
      if (x.turn(p, turns[p]) < 0) due("turn(" + p + ", " + turns[p] + ")", x.turn(p, turns[p]), turns[p]);
    }
  }

  /** Wipes the pad and writes a show on it. */
  static void write(SpunPlates x, String show) {
    x.wipe();
    for (int i = 0; i < show.length(); i++) due("say " + show.charAt(i), x.say(show.charAt(i)), i + 1);
  }

  /** What about(.., 3) answers of the first plates. */
  static void dueTurns(String when, SpunPlates x, int... turns) {
    for (int p = 0; p < turns.length; p++) due(when + ", about(" + p + ", 3)", x.about(p, 3), turns[p]);
  }

  /** What judge answers, from 0 on. */
  static void dueJudged(String when, SpunPlates x, int... want) {
    for (int w = 0; w < want.length; w++) due(when + ", judge(" + w + ")", x.judge(w), want[w]);
  }
}
