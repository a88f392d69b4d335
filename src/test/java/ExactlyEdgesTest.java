import java.util.Random;

/** Each sentence of "3 EXACTLY" and of promises 16 to 21 that names an edge. */
public final class ExactlyEdgesTest {
  private static final int OUTSIDE = Edge.OUTSIDE, STATE = Edge.STATE, NONE = Edge.NONE,
      LOWEST = Edge.LOWEST, HIGHEST = Edge.HIGHEST;

  private static void due(String call, int got, int want) {
    Edge.due(call, got, want);
  }

  private static void dueState(String when, SpunPlates x, boolean state) {
    due(when + ", kept", x.kept() == STATE ? 1 : 0, state ? 1 : 0);
    due(when + ", longest", x.longest() == STATE ? 1 : 0, state ? 1 : 0);
    due(when + ", step", x.step() == STATE ? 1 : 0, state ? 1 : 0);
    for (int n = 1; n <= 9; n += 8) due(when + ", bow", x.bow(n) == STATE ? 1 : 0, state ? 1 : 0);
    for (int n = 1; n <= 30; n += 29) {
      for (int what = 0; what <= 1; what++) due(when + ", gasps", x.gasps(n, what) == STATE ? 1 : 0, state ? 1 : 0);
    }
  }

  private static void oneToThree() {
    Edge.says("3 EXACTLY, of 1 to 3 PLATES that have not fallen (others are left aside)");
    dueState("no plates", new SpunPlates(), true);
    SpunPlates x = Edge.with(0, 5, 1, 1, 5, 1, 2, 5, 1, 3, 5, 1, 4, 5, 1, 5, 5, 1);
    for (int stand = 6; stand >= 0; stand--) {
      dueState(stand + " of six stand", x, stand < 1 || stand > 3);
      if (stand > 0) x.turn(stand - 1, 0);
    }
    SpunPlates y = Edge.with(0, 5, 1, 1, 5, 1, 2, 5, 1);
    dueState("three", y, false);
    y.plate(3, 5, 1);
    dueState("four", y, true);
    Edge.turns(y, 0, 5, 5, 5);
    dueState("the first of four has fallen", y, false);
  }

  private static void leftAside() {
    Edge.says("(others are left aside)");
    SpunPlates x = Edge.with(0, 15, 3, 1, 15, 3, 2, 10, 1, 3, 15, 3);
    Edge.turns(x, 0, 0, 5, 0);
    SpunPlates y = Edge.with(2, 10, 1);
    Edge.turns(y, 5);
    for (int man = 0; man < 8; man++) {
      x.set(0, man);
      y.set(0, man);
      due("kept, from " + man, x.kept(), y.kept());
      due("longest, from " + man, x.longest(), y.longest());
      due("step, from " + man, x.step(), y.step());
      for (int n = 1; n <= 9; n++) due("bow " + n + ", from " + man, x.bow(n), y.bow(n));
      for (int n = 1; n <= 30; n += 7) due("gasps " + n + ", from " + man, x.gasps(n, 0), y.gasps(n, 0));
    }
  }

  private static void kept() {
    Edge.says("KEPT: some way keeps them for ever");
    SpunPlates x = Edge.with(7, 15, 1);
    for (int turn = 1; turn <= 15; turn++) {
      Edge.turns(x, turn);
      due("he is there behind 7 ticks, turn " + turn, x.kept(), turn >= 8 ? 1 : 0);
    }
    int[][] fullFallsGivesKept = {{2, 1, 1, 1}, {2, 2, 6, 0}, {3, 2, 2, 1}, {3, 2, 1, 0}, {3, 3, 6, 0}, {4, 3, 3, 1},
        {4, 3, 2, 0}, {15, 3, 3, 1}, {15, 3, 2, 0}, {15, 1, 1, 1}};
    for (int[] f : fullFallsGivesKept) {
      SpunPlates y = Edge.with(0, f[0], f[1]);
      y.set(1, f[2]);
      due("FULL " + f[0] + ", FALLS " + f[1] + ", GIVES " + f[2], y.kept(), f[3]);
    }
    Edge.says("KEPT: 1, 0. STATE: there are not 1 to 3 PLATES that have not fallen.");
    due("no plates", new SpunPlates().kept(), STATE);
    SpunPlates z = Edge.with(0, 15, 1, 1, 15, 1, 2, 15, 1);
    z.set(1, 6);
    due("three", z.kept(), 1);
    z.plate(3, 15, 1);
    due("four", z.kept(), STATE);
    Edge.turns(z, 0, 0, 0, 0);
    due("none stands", z.kept(), STATE);
    Edge.turns(z, 0, 0, 0, 15);
    due("one stands", z.kept(), 1);
  }

  private static void longest() {
    Edge.says("else LONGEST: the most TICKS behind which all of them stand still");
    SpunPlates x = Edge.with(7, 15, 1);
    for (int turn = 1; turn <= 7; turn++) {
      Edge.turns(x, turn);
      due("he comes too late, turn " + turn, x.longest(), turn - 1);
    }
    Edge.turns(x, 8);
    due("he comes just in time", x.longest(), NONE);
    SpunPlates y = Edge.with(7, 15, 3);
    int[] longest = {0, 0, 0, 1, 1, 1, 2, 2, 2, 3, 3, 3, 4, 4, 4};
    for (int turn = 1; turn <= 15; turn++) {
      Edge.turns(y, turn);
      due("3 a tick, turn " + turn, y.longest(), longest[turn - 1]);
    }
    Edge.says("LONGEST; NONE: KEPT. STATE, likewise.");
    due("no plates", new SpunPlates().longest(), STATE);
    Edge.turns(y, 0);
    due("none stands", y.longest(), STATE);
    SpunPlates z = Edge.with(0, 15, 1, 7, 15, 1);
    Edge.turns(z, 1, 1);
    due("not one tick", z.longest(), 0);
    Edge.turns(z, 1, 2);
    due("one tick: wound, and the other by its last", z.longest(), 1);
  }

  private static void step() {
    Edge.says("STEP: the least thing (0 to 3) by which they are KEPT, else by which LONGEST is one less");
    SpunPlates x = Edge.with(3, 15, 1);
    int[] fromLeft = {0, 2, 0};
    int[] fromRight = {0, 1, 0};
    for (int i = 0; i < 3; i++) {
      Edge.turns(x, 3 + i);
      x.set(0, 0);
      due("three places to the right, turn " + (3 + i), x.step(), fromLeft[i]);
      x.set(0, 6);
      due("three places to the left, turn " + (3 + i), x.step(), fromRight[i]);
    }
    x.set(0, 3);
    Edge.turns(x, 1);
    due("before him, its last turn", x.step(), 3);
    Edge.turns(x, 2);
    due("before him, one to spare", x.step(), 0);
    SpunPlates y = Edge.with(0, 15, 3);
    y.set(1, 2);
    due("not kept: FULL is not wound any more", y.step(), 0);
    Edge.turns(y, 14);
    due("not kept: one more is worth a tick", y.step(), 3);
    due("LONGEST is", y.longest(), 12);
    due("the tick", y.tick(3), 1);
    due("LONGEST is one less", y.longest(), 11);
    Edge.says("STEP; NONE: one falls by each. STATE, likewise.");
    Edge.turns(y, 1);
    due("1 and 2 less 3", y.step(), NONE);
    y.set(1, 3);
    due("1 and 3 less 3", y.step(), 3);
    y.set(0, 1);
    due("one place away", y.step(), NONE);
    Edge.turns(y, 3);
    due("3 less 3", y.step(), NONE);
    Edge.turns(y, 4);
    due("4 less 3, and then he winds", y.step(), 1);
    y.set(0, 2);
    due("4 less 3, and then it falls", y.step(), 0);
    Edge.turns(y, 0);
    due("none stands", y.step(), STATE);
    due("no plates", new SpunPlates().step(), STATE);
  }

  private static void bow() {
    Edge.says("BOW of n TICKS (1 to 9): he stays; the fewest TICKS (0 on) after which he can, and all stand behind it");
    SpunPlates x = Edge.with(0, 15, 1);
    for (int n = 1; n <= 9; n++) {
      Edge.turns(x, n + 1);
      due("just enough for " + n, x.bow(n), 0);
      Edge.turns(x, n);
      due("one short for " + n, x.bow(n), 1);
    }
    SpunPlates y = Edge.with(0, 15, 3);
    due("15 less 12", y.bow(4), 0);
    due("15 less 15", y.bow(5), NONE);
    Edge.turns(y, 13);
    due("13 less 12", y.bow(4), 0);
    Edge.turns(y, 12);
    due("12 less 12, and it is never above 12 again", y.bow(4), NONE);
    due("12 less 9", y.bow(3), 0);
    SpunPlates z = Edge.with(0, 15, 1, 3, 15, 1);
    Edge.turns(z, 15, 4);
    due("all stand behind it", z.bow(3), 0);
    due("three ticks there, with 1 left, windings to 3 and 5", z.bow(4), 5);
    Edge.turns(z, 15, 3);
    due("he comes too late", z.bow(3), NONE);
    Edge.turns(z, 3, 15);
    due("wound for one tick, 3 and 3 less 1", z.bow(3), 1);
    SpunPlates ten = Edge.with(0, 10, 1);
    due("10 less 9", ten.bow(9), 0);
    Edge.turns(ten, 9);
    due("9 less 9, and it is never above 9 again", ten.bow(9), NONE);
    Edge.says("BOW: TICKS; NONE: never. OUTSIDE; STATE, likewise.");
    SpunPlates none = new SpunPlates();
    for (int n : new int[] {LOWEST, -1, 0, 10, 11, HIGHEST}) {
      due("bow " + n, x.bow(n), OUTSIDE);
      due("OUTSIDE ahead of STATE, bow " + n, none.bow(n), OUTSIDE);
    }
    due("no plates", none.bow(1), STATE);
    due("no plates", none.bow(9), STATE);
    Edge.turns(x, 0);
    due("none stands", x.bow(9), STATE);
  }

  private static void gasps() {
    Edge.says("at each TICK's end each PLATE with a TURN of 3 or less gasps once");
    SpunPlates x = Edge.with(1, 15, 1);
    int[] gasps = {NONE, 1, 1, 1, 0, 0};
    for (int turn = 1; turn <= 6; turn++) {
      Edge.turns(x, turn);
      due("from " + turn + " to one less", x.gasps(1, 0), gasps[turn - 1]);
    }
    SpunPlates three = Edge.with(1, 15, 1, 2, 15, 1, 3, 15, 1);
    Edge.turns(three, 4, 4, 4);
    due("each once", three.gasps(1, 0), 3);
    Edge.turns(three, 4, 5, 4);
    due("4 does not", three.gasps(1, 0), 2);
    Edge.says("GASPS by a SHOW of n TICKS (1 to 30) behind which all stand");
    Edge.turns(x, 5);
    x.set(0, 7);
    due("five less 4: 4 3 2 1", x.gasps(4, 0), 3);
    due("five less 5", x.gasps(5, 0), NONE);
    due("five less 5, the first thing", x.gasps(5, 1), NONE);
    SpunPlates y = Edge.with(0, 2, 1);
    due("one tick", y.gasps(1, 0), 1);
    due("thirty ticks", y.gasps(30, 0), 30);
    Edge.says("the most that any such SHOW has; its first thing (the least)");
    due("he can stay once", y.gasps(30, 1), 0);
    Edge.turns(y, 1);
    due("he must wind", y.gasps(30, 1), 3);
    SpunPlates high = Edge.with(0, 15, 3);
    high.set(1, 6);
    Edge.turns(high, 3);
    due("not one gasp, but a SHOW", high.gasps(1, 0), 0);
    due("not one gasp, its first thing", high.gasps(1, 1), 3);
    SpunPlates z = Edge.with(1, 9, 1);
    Edge.turns(z, 2);
    z.set(0, 0);
    due("he must go to the right, then wind", z.gasps(2, 1), 2);
    z.set(0, 2);
    due("he must go to the left, then wind", z.gasps(2, 1), 1);
    due("for one tick he can stay", z.gasps(1, 1), 0);
    Edge.says("GASPS: the most (what = 0), the first thing (1); NONE: no such SHOW. OUTSIDE; STATE, likewise.");
    SpunPlates none = new SpunPlates();
    for (int n : new int[] {LOWEST, -1, 0, 31, 32, HIGHEST}) {
      for (int what = -1; what <= 2; what++) {
        due("gasps(" + n + ", " + what + ")", y.gasps(n, what), OUTSIDE);
        due("OUTSIDE ahead of STATE, gasps(" + n + ", " + what + ")", none.gasps(n, what), OUTSIDE);
      }
    }
    for (int what : new int[] {LOWEST, -1, 2, HIGHEST}) {
      due("gasps(1, " + what + ")", y.gasps(1, what), OUTSIDE);
      due("OUTSIDE ahead of STATE, gasps(30, " + what + ")", none.gasps(30, what), OUTSIDE);
    }
    for (int what = 0; what <= 1; what++) {
      due("no plates", none.gasps(1, what), STATE);
      due("no plates", none.gasps(30, what), STATE);
    }
  }

  private static void load() {
    Edge.says("for each PLATE that has not fallen FALLS by GIVES, together (a fraction; above 1 they are not KEPT):"
        + " its upper, its lower number in lowest terms");
    SpunPlates x = Edge.with(0, 9, 3, 1, 9, 3, 2, 9, 3, 3, 9, 3, 4, 9, 3, 5, 9, 3);
    int[][] eighteenBy = {{18, 1}, {9, 1}, {6, 1}, {9, 2}, {18, 5}, {3, 1}};
    for (int g = 1; g <= 6; g++) {
      x.set(1, g);
      due("18 by " + g, x.load(0), eighteenBy[g - 1][0]);
      due("18 by " + g + ", lower", x.load(1), eighteenBy[g - 1][1]);
    }
    SpunPlates y = Edge.with(0, 9, 1, 1, 9, 3);
    Edge.turns(y, 1, 0);
    int[][] oneBy = {{1, 1}, {1, 2}, {1, 3}, {1, 4}, {1, 5}, {1, 6}};
    for (int g = 1; g <= 6; g++) {
      y.set(1, g);
      due("1 by " + g, y.load(0), oneBy[g - 1][0]);
      due("1 by " + g + ", lower", y.load(1), oneBy[g - 1][1]);
    }
    SpunPlates z = Edge.with(0, 15, 3);
    due("3 by 3 is 1", z.load(0), z.load(1));
    due("and can be kept", z.kept(), 1);
    z.set(1, 2);
    due("3 by 2", z.load(0), 3);
    due("3 by 2, lower", z.load(1), 2);
    due("is not kept", z.kept(), 0);
    aboveOne();
    Edge.says("LOAD (0 by 1 without). OUTSIDE.");
    SpunPlates none = new SpunPlates();
    for (int g = 1; g <= 6; g++) {
      none.set(1, g);
      due("no plates, upper", none.load(0), 0);
      due("no plates, lower", none.load(1), 1);
    }
    Edge.turns(z, 0);
    due("none stands, upper", z.load(0), 0);
    due("none stands, lower", z.load(1), 1);
    for (int part : new int[] {LOWEST, -1, 2, HIGHEST}) {
      due("part " + part, x.load(part), OUTSIDE);
      due("no plates, part " + part, none.load(part), OUTSIDE);
    }
  }

  private static void aboveOne() {
    Random r = new Random(21);
    for (int i = 0; i < 300; i++) {
      SpunPlates x = new SpunPlates();
      for (int p = 0; p < 3; p++) x.plate(3 * p % 8, 2 + r.nextInt(14), 1 + r.nextInt(3));
      x.set(0, r.nextInt(8));
      x.set(1, 1 + r.nextInt(6));
      if (x.load(0) > x.load(1)) due("above 1", x.kept(), 0);
    }
  }

  public static void main(String[] args) {
    oneToThree();
    leftAside();
    kept();
    longest();
    step();
    bow();
    gasps();
    load();
    Due.end("ExactlyEdgesTest");
  }
}
