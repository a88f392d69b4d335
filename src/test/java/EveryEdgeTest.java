import java.util.Random;

/**
 * "Calls that are refused answer, the first of these that fits .. They change nothing.": every call, with each of
 * its numbers at and around its told edges, together in every way, on each of the stages below: it answers what
 * the model answers, throws nothing, and what it leaves behind is as in the model; what was there before, if it
 * was refused or only asked.
 */
public final class EveryEdgeTest {
  /** A name, then calls; pad(..) says signs. */
  private static final String[][] STAGES = {
      {"a new object", ""},
      {"no plates, but signs and an image", "set(0,7) image(1) set(0,3) pad(>2<2.w)"},
      {"one plate, FULL", "plate(0,10,1)"},
      {"one plate, fallen, he is there", "plate(3,2,1) set(0,3) turn(0,0) pad(.)"},
      {"one plate at its last turn, seen late", "plate(0,9,1) turn(0,1) set(3,3) pad(w)"},
      {"two plates", "plate(2,9,1) plate(5,9,1) pad(>2w>)"},
      {"two, the one before him fallen", "plate(2,9,1) plate(0,9,2) turn(1,0) pad(w)"},
      {"three that can be kept", "plate(1,8,1) plate(2,7,1) plate(3,8,1) set(0,2) set(1,6) set(3,2) pad(w2<w)"},
      {"three that can not", "plate(7,6,3) plate(0,5,2) plate(4,4,1) pad(>9)"},
      {"three of six stand", "plate(7,6,1) plate(6,5,2) plate(5,4,1) plate(0,9,1) plate(1,9,1) plate(2,9,1) turn(3,0)"
          + " turn(4,0) turn(5,0) set(0,6)"},
      {"four stand", "plate(0,9,1) plate(2,9,1) plate(4,9,1) plate(6,9,1) image(0) pad(.2)"},
      {"five plates, one fallen", "plate(0,9,1) plate(2,9,1) plate(4,9,1) plate(6,9,1) plate(7,2,1) turn(4,0)"},
      {"six, all stand", "plate(1,15,1) plate(3,12,2) plate(5,9,3) plate(7,15,1) plate(0,12,2) plate(2,15,3) pad(w3>w)"},
      {"six, all fallen", "plate(0,9,1) plate(1,9,1) plate(2,9,1) plate(3,9,1) plate(4,9,1) plate(5,9,1) turn(0,0)"
          + " turn(1,0) turn(2,0) turn(3,0) turn(4,0) turn(5,0)"},
      {"six at their last turn", "plate(0,9,1) plate(1,9,1) plate(2,9,1) plate(3,9,1) plate(4,9,1) plate(5,9,1)"
          + " turn(0,1) turn(1,1) turn(2,1) turn(3,1) turn(4,1) turn(5,1) set(0,7)"},
      {"39 signs", "plate(0,9,1) pad(w.w.w.w.w.w.w.w.w.w.w.w.w.w.w.w.w.w.w.w)"},
      {"40 signs", "plate(0,9,1) pad(w.w.w.w.w.w.w.w.w.w.w.w.w.w.w.w.w.w.w.w2)"},
      {"40 signs, the last a fault", "plate(0,9,1) pad(w.w.w.w.w.w.w.w.w.w.w.w.w.w.w.w.w.w.w.w1)"},
      {"the longest show", "plate(0,9,1) plate(4,3,1) pad(.9.9.9.9.9.9.9.9.9.9.9.9.9.9.9.9.9.9.9.9)"},
      {"a fault at the first sign", "plate(0,9,1) plate(4,3,1) image(0) turn(0,2) image(1) pad(2w)"},
      {"a show whose last tick can not be done", "plate(2,15,1) plate(4,15,1) set(0,2) pad(w3>2w<2.w>5>)"},
      {"all settings at their least", "plate(0,6,1) plate(7,15,3) set(0,0) set(1,1) set(2,1) set(3,0) set(4,1)"},
      {"all settings at their most", "plate(0,6,1) plate(7,15,3) set(0,7) set(1,6) set(2,9) set(3,3) set(4,6)"},
      {"two images of other stages", "plate(0,6,1) image(0) plate(7,15,3) tick(2) image(1) plate(3,9,1) tick(0) set(3,2)"},
  };

  private static final int PLATE = Calls.numberOf("plate"), SAY = Calls.numberOf("say"), WIPE = Calls.numberOf("wipe"),
      RESTORE = Calls.numberOf("restore"), ABOUT = Calls.numberOf("about"), FAULT = Calls.numberOf("fault"),
      JUDGE = Calls.numberOf("judge"), TOLD = Calls.numberOf("told");

  private final SpunPlates x = new SpunPlates();
  private final Model m = new Model();

  private EveryEdgeTest(String script) {
    for (String call : script.isEmpty() ? new String[0] : script.split(" ")) {
      String name = call.substring(0, call.indexOf('('));
      String inner = call.substring(name.length() + 1, call.length() - 1);
      if (name.equals("pad")) {
        for (char sign : inner.toCharArray()) set(SAY, sign);
      } else {
        String[] parts = inner.split(",");
        int[] numbers = new int[parts.length];
        for (int i = 0; i < parts.length; i++) numbers[i] = Integer.parseInt(parts[i]);
        set(Calls.numberOf(name), numbers);
      }
    }
  }

  private void set(int which, int... numbers) {
    int answer = Calls.of(x, which, numbers);
    Due.due(Calls.text(which, numbers), answer, Calls.of(m, which, numbers));
    Due.dueTrue(Calls.text(which, numbers) + " is not refused", answer >= 0);
  }

  private int of(boolean ofClass, int which, int... numbers) {
    return ofClass ? Calls.of(x, which, numbers) : Calls.of(m, which, numbers);
  }

  /** All that can be seen of the class, or of the model; the object is used up by it. */
  private String seen(boolean ofClass) {
    StringBuilder all = new StringBuilder();
    look(ofClass, all);
    all.append(of(ofClass, FAULT)).append(' ');
    for (int w = 0; w < 6; w++) all.append(of(ofClass, JUDGE, w)).append(' ');
    all.append(of(ofClass, SAY, '.')).append(' ').append(of(ofClass, FAULT)).append(' ');
    all.append(of(ofClass, PLATE, 6, 5, 1)).append(' ').append(of(ofClass, WIPE)).append(' ');
    for (int n = 0; n < 2; n++) {
      all.append(of(ofClass, RESTORE, n)).append(' ');
      look(ofClass, all);
    }
    return all.toString();
  }

  private void look(boolean ofClass, StringBuilder all) {
    for (int w = 0; w < 8; w++) all.append(of(ofClass, TOLD, w)).append(' ');
    int plates = of(ofClass, TOLD, 0);
    for (int p = 0; p < plates; p++) {
      for (int w = 0; w < 4; w++) all.append(of(ofClass, ABOUT, p, w)).append(' ');
    }
  }

  private static void call(String[] stage, String before, int which, int[] numbers) {
    EveryEdgeTest t = new EveryEdgeTest(stage[1]);
    String text = "on the stage \"" + stage[0] + "\", " + Calls.text(which, numbers);
    int answer = Calls.of(t.x, which, numbers);
    Due.due(text, answer, Calls.of(t.m, which, numbers));
    String behind = t.seen(true);
    Due.dueTrue(text + ": what is behind it is as in the model", behind.equals(t.seen(false)));
    if (answer < 0 || which >= Calls.FIRST_QUESTION) {
      Due.dueTrue(text + " answered " + answer + " and changed nothing", behind.equals(before));
    }
  }

  private static void everyWay(String[] stage, String before, int which, int[] numbers, int filled) {
    if (filled == Calls.EDGES[which].length) {
      call(stage, before, which, numbers);
      return;
    }
    for (int v : Calls.EDGES[which][filled]) {
      numbers[filled] = v;
      everyWay(stage, before, which, numbers, filled + 1);
    }
  }

  /** "An object is used for at most 512 calls": the last of them is as good as the first. */
  private static void fiveHundredAndTwelve(long seed) {
    Random r = new Random(seed);
    EveryEdgeTest t = new EveryEdgeTest("");
    for (int i = 1; i <= 512; i++) {
      int which = r.nextInt(3) == 0 ? r.nextInt(2) : r.nextInt(Calls.NAMES.length);
      int[] numbers = new int[3];
      for (int k = 0; k < Calls.EDGES[which].length; k++) {
        int[] edges = Calls.EDGES[which][k];
        numbers[k] = edges[1 + r.nextInt(edges.length - 2)];
      }
      // Low plates keep the model's slow search short.
      if (which == PLATE) numbers[1] = Math.min(numbers[1], 6);
      String text = "seed " + seed + ", call " + i + ": " + Calls.text(which, numbers);
      Due.due(text, Calls.of(t.x, which, numbers), Calls.of(t.m, which, numbers));
    }
  }

  public static void main(String[] args) {
    Due.endWithin(15);
    for (String[] stage : STAGES) {
      String before = new EveryEdgeTest(stage[1]).seen(true);
      for (int which = 0; which < Calls.NAMES.length; which++) everyWay(stage, before, which, new int[3], 0);
    }
    for (long seed = 1; seed <= 40; seed++) fiveHundredAndTwelve(seed);
    Due.end("EveryEdgeTest");
  }
}
