import java.util.Random;

/**
 * Calls with any arguments in any state: none throws, none fails to end, a refused one changes nothing,
 * and those that only ask change nothing.
 */
public final class NeverThrowsTest {
  private static final int[] EDGES = {Integer.MIN_VALUE, Integer.MIN_VALUE + 1, -1000, -7, -6, -5, -4, -3, -2, -1,
      0, 1, 2, 3, 4, 5, 6, 7, 8, 9, 10, 12, 15, 16, 30, 31, 33, 40, 46, 60, 62, 119, 126, 127, 210, 543210,
      600, 601, 1 << 16, 1 << 28, Integer.MAX_VALUE - 1, Integer.MAX_VALUE};

  private final SpunPlates x = new SpunPlates();
  private final Random r;

  private NeverThrowsTest(long seed) {
    r = new Random(seed);
  }

  private int any() {
    int k = r.nextInt(10);
    return k == 0 ? r.nextInt() : k < 3 ? EDGES[r.nextInt(EDGES.length)] : r.nextInt(10) - 1;
  }

  /** Any three numbers; as often as not such as the call has edges at. */
  private int[] numbers(int which) {
    int[] all = {any(), any(), any()};
    for (int k = 0; k < Calls.EDGES[which].length; k++) {
      int[] edges = Calls.EDGES[which][k];
      if (r.nextInt(2) == 0) all[k] = edges[r.nextInt(edges.length)];
    }
    return all;
  }

  private String seen() {
    StringBuilder all = new StringBuilder();
    for (int w = 0; w < 8; w++) all.append(x.told(w)).append(' ');
    for (int p = 0; p < 6; p++) {
      for (int w = 0; w < 4; w++) all.append(x.about(p, w)).append(' ');
    }
    all.append(x.fault());
    for (int w = 0; w < 6; w++) all.append(' ').append(x.judge(w));
    return all.toString();
  }

  private void run(int calls) {
    for (int i = 0; i < calls; i++) {
      int which = r.nextInt(4) == 0 ? r.nextInt(3) : r.nextInt(Calls.NAMES.length);
      int[] numbers = numbers(which);
      String text = Calls.text(which, numbers);
      String before = seen();
      int answer = Calls.of(x, which, numbers);
      if (answer < 0 || which >= Calls.FIRST_QUESTION) {
        Due.dueTrue(text + ", which answered " + answer + ", changed nothing", seen().equals(before));
      }
      Due.dueTrue(text + " answered " + answer, answer >= SpunPlates.NONE);
    }
  }

  /** Far more calls than an object is used for: the marks of the exact search must not be mixed up. */
  private static void manyCalls() {
    SpunPlates x = new SpunPlates();
    x.plate(1, 9, 1);
    x.plate(3, 12, 2);
    int gasps = x.gasps(30, 0), first = x.gasps(30, 1), bow = x.bow(5), longest = x.longest(), step = x.step();
    for (int i = 0; i < 1500; i++) {
      Due.due("gasps", x.gasps(30, 0), gasps);
      Due.due("first thing", x.gasps(30, 1), first);
      Due.due("bow", x.bow(5), bow);
      Due.due("longest", x.longest(), longest);
      Due.due("step", x.step(), step);
    }
  }

  public static void main(String[] args) {
    Due.endWithin(15);
    for (int seed = 1; seed <= 60; seed++) new NeverThrowsTest(seed).run(512);
    new NeverThrowsTest(1000).run(6000);
    manyCalls();
    Due.end("NeverThrowsTest");
  }
}
