import java.util.Random;

/**
 * Calls with any arguments in any state: none throws, none fails to end, a refused one changes nothing,
 * and those that only ask change nothing.
 */
public final class NeverThrowsTest {
  private static final int CALLS = 29;
  private static final int[] EDGES = {Integer.MIN_VALUE, Integer.MIN_VALUE + 1, -1000, -7, -6, -5, -4, -3, -2, -1,
      0, 1, 2, 3, 4, 5, 6, 7, 8, 9, 10, 12, 15, 16, 30, 31, 33, 40, 46, 60, 62, 119, 126, 127, 210, 543210,
      600, 601, 1 << 16, 1 << 28, Integer.MAX_VALUE - 1, Integer.MAX_VALUE};

  private final SpunPlates x = new SpunPlates();
  private final Random r;

  private NeverThrowsTest(long seed) {
    r = new Random(seed);
  }

  private int any() {
    int k = r.nextInt(10);
    return k == 0 ? r.nextInt() : k < 3 ? EDGES[r.nextInt(EDGES.length)] : r.nextInt(10) - 1;
  }

  /** The calls up to 10 may change something; the later ones only ask. */
  private int call(int which) {
    int a = any(), b = any(), c = any();
    switch (which) {
      case 0: return x.plate(a, r.nextInt(20), r.nextInt(4));
      case 1: return x.plate(a, b, c);
      case 2: return x.turn(a, r.nextInt(2) == 0 ? b : r.nextInt(16));
      case 3: return x.set(a, b);
      case 4: return x.tick(a);
      case 5: return x.say(r.nextInt(4) == 0 ? a : ".<>w23456789".charAt(r.nextInt(12)));
      case 6: return r.nextInt(10) == 0 ? x.wipe() : x.say('.');
      case 7: return x.show();
      case 8: return x.image(a);
      case 9: return x.restore(a);
      case 10: return r.nextInt(10) == 0 ? x.wipe() : 0;
      case 11: return x.about(a, b);
      case 12: return x.fault();
      case 13: return x.judge(a);
      case 14: return x.lasts(a);
      case 15: return x.at(a, r.nextInt(2) == 0 ? b : r.nextInt(601), c);
      case 16: return x.round(a, b);
      case 17: return x.sticks(a, b);
      case 18: return x.kept();
      case 19: return x.longest();
      case 20: return x.step();
      case 21: return x.bow(a);
      case 22: return x.gasps(r.nextInt(2) == 0 ? a : r.nextInt(31), b);
      case 23: return x.load(a);
      case 24: return x.setUp(a);
      case 25: return x.bestOrder();
      case 26: return x.film(a);
      case 27: return x.whose();
      default: return x.told(a);
    }
  }

  private String seen() {
    StringBuilder all = new StringBuilder();
    for (int w = 0; w < 8; w++) all.append(x.told(w)).append(' ');
    for (int p = 0; p < 6; p++) {
      for (int w = 0; w < 4; w++) all.append(x.about(p, w)).append(' ');
    }
    all.append(x.fault());
    for (int w = 0; w < 6; w++) all.append(' ').append(x.judge(w));
    return all.toString();
  }

  private void run(int calls) {
    for (int i = 0; i < calls; i++) {
      int which = r.nextInt(CALLS);
      String before = seen();
      int answer = call(which);
      if (answer < 0 || which > 10) {
        if (!seen().equals(before)) Due.dueTrue("call " + which + ", which answered " + answer + ", changed nothing", false);
      }
      if (answer < SpunPlates.NONE) Due.dueTrue("call " + which + " answered " + answer, false);
    }
    Due.dueTrue("a run to its end", true);
  }

  /** Far more calls than an object is used for: the marks of the exact search must not be mixed up. */
  private static void manyCalls() {
    SpunPlates x = new SpunPlates();
    x.plate(1, 9, 1);
    x.plate(3, 12, 2);
    int gasps = x.gasps(30, 0), first = x.gasps(30, 1), bow = x.bow(5), longest = x.longest(), step = x.step();
    for (int i = 0; i < 1500; i++) {
      Due.due("gasps", x.gasps(30, 0), gasps);
      Due.due("first thing", x.gasps(30, 1), first);
      Due.due("bow", x.bow(5), bow);
      Due.due("longest", x.longest(), longest);
      Due.due("step", x.step(), step);
    }
  }

  private static void endAtLast() {
    Thread watch = new Thread(() -> {
      try {
        Thread.sleep(15 * 60 * 1000L);
      } catch (InterruptedException e) {
        return;
      }
      System.out.println("a call does not end");
      Runtime.getRuntime().halt(1);
    });
    watch.setDaemon(true);
    watch.start();
  }

  public static void main(String[] args) {
    endAtLast();
    for (int seed = 1; seed <= 60; seed++) new NeverThrowsTest(seed).run(512);
    new NeverThrowsTest(1000).run(6000);
    manyCalls();
    Due.end("NeverThrowsTest");
  }
}
