/** Each sentence of "4 SETTING UP, FILM, WHOSE" and of promises 22 to 28 that names an edge. */
public final class SettingUpEdgesTest {
  private static final int UNKNOWN = Edge.UNKNOWN, OUTSIDE = Edge.OUTSIDE, STATE = Edge.STATE, NO = Edge.NO,
      NONE = Edge.NONE, LOWEST = Edge.LOWEST, HIGHEST = Edge.HIGHEST;

  private static void due(String call, int got, int want) {
    Edge.due(call, got, want);
  }

  // ---- setting up

  private static void setsTicks() {
    Edge.says("he goes from his PLACE to each one (a TICK a PLACE), and sets it up in SETS TICKS (1 to 6; 2 at first)"
        + " to FULL (at the end of the last of these TICKS; it runs down from the next TICK on)");
    SpunPlates one = Edge.with(7, 4, 3);
    due("one alone does not run down, however far", one.setUp(0), 4);
    SpunPlates x = Edge.with(0, 15, 1, 1, 15, 1);
    due("2 at first", x.told(7), 2);
    due("below", x.set(4, 0), OUTSIDE);
    due("above", x.set(4, 7), OUTSIDE);
    for (int sets = 1; sets <= 6; sets++) {
      x.set(4, sets);
      for (int man = 0; man < 8; man++) {
        x.set(0, man);
        due("one place and SETS " + sets + ", from " + man, x.setUp(1), 15 - 1 - sets);
        due("one place and SETS " + sets + ", from " + man, x.setUp(10), 15 - 1 - sets);
      }
    }
    SpunPlates y = Edge.with(0, 15, 1, 7, 15, 1);
    due("seven places and 2", y.setUp(1), 6);
    y.set(4, 6);
    due("seven places and 6", y.setUp(1), 2);
    Edge.turns(y, 0, 1);
    due("what TURNS are now is nothing to it", y.setUp(1), 2);
    Edge.dueTurns("and they stay", y, 0, 1);
  }

  private static void notWound() {
    Edge.says("those that are up run down meanwhile and are not WOUND");
    SpunPlates x = Edge.with(3, 15, 1, 2, 15, 1, 4, 15, 1);
    x.set(1, 6);
    x.set(4, 1);
    // 1 at 2, then 2 at 4, past 0: 3 ticks, then back to 0: 2 more.
    due("he comes by 0 when it is not up", x.setUp(120), 15 - 5);
    // 0 is up first; he comes by it on the way from 1 to 2.
    due("he comes by 0 when it is up", x.setUp(12), 15 - 5);
    x.set(1, 1);
    due("GIVES is nothing to it", x.setUp(12), 15 - 5);
  }

  private static void good() {
    Edge.says("GOOD, if none has fallen when the last one is up: LEAST: the least TURN of all then");
    int[][] fullLeast = {{2, 0}, {3, 0}, {4, 1}, {5, 2}};
    for (int[] f : fullLeast) {
      SpunPlates x = Edge.with(0, f[0], 1, 1, 15, 1);
      due("three ticks, FULL " + f[0], x.setUp(1), f[1]);
    }
    SpunPlates y = Edge.with(0, 15, 3, 3, 15, 1);
    due("five ticks by 3", y.setUp(1), 0);
    y.set(4, 1);
    due("four ticks by 3", y.setUp(1), 3);
    SpunPlates z = Edge.with(0, 15, 1, 1, 2, 1);
    due("the last one's FULL is the least", z.setUp(1), 2);
  }

  private static void setUpRefusals() {
    Edge.says("LEAST of an order of all PLATES (their numbers as digits, the first one's first); 0: one has fallen."
        + " OUTSIDE: it is below 0, or, with PLATES, not each of them once; STATE: no PLATES.");
    SpunPlates none = new SpunPlates();
    for (int order : new int[] {0, 1, 10, 543210, HIGHEST}) due("no plates, " + order, none.setUp(order), STATE);
    for (int order : new int[] {LOWEST, -10, -1}) due("OUTSIDE ahead of STATE, " + order, none.setUp(order), OUTSIDE);
    SpunPlates one = Edge.with(3, 9, 1);
    due("one", one.setUp(0), 9);
    for (int order : new int[] {LOWEST, -1, 1, 9, 10, 100, HIGHEST}) due("one, " + order, one.setUp(order), OUTSIDE);
    SpunPlates two = Edge.with(3, 15, 1, 4, 15, 1);
    due("two, 01", two.setUp(1), 12);
    due("two, 10", two.setUp(10), 12);
    for (int order : new int[] {-1, 0, 2, 11, 12, 20, 21, 100, 101, 110, 1001, HIGHEST}) {
      due("two, " + order, two.setUp(order), OUTSIDE);
    }
    SpunPlates six = Edge.with(0, 15, 1, 1, 15, 1, 2, 15, 1, 3, 15, 1, 4, 15, 1, 5, 15, 1);
    six.set(4, 1);
    due("six, 012345", six.setUp(12345), 5);
    due("six, 543210", six.setUp(543210), 5);
    for (int order : new int[] {0, 12344, 12346, 1234, 123456, 543211, 654321, 1012345, 1543210, 5432100, 999999,
        HIGHEST}) {
      due("six, " + order, six.setUp(order), OUTSIDE);
    }
    Edge.turns(six, 0, 0, 0, 0, 0, 0);
    due("fallen ones are PLATES, too", six.setUp(12345), 5);
  }

  private static void bestOrder() {
    Edge.says("BEST ORDER: that with the greatest LEAST, of several the first by numbers");
    SpunPlates x = Edge.with(0, 15, 1, 7, 15, 1);
    due("both are like", x.setUp(1), x.setUp(10));
    due("the first", x.bestOrder(), 1);
    SpunPlates y = Edge.with(0, 9, 2, 7, 15, 1);
    due("0 first falls", y.setUp(1), 0);
    due("1 first does not", y.setUp(10), 6);
    due("so 1 first", y.bestOrder(), 10);
    SpunPlates six = Edge.with(5, 5, 1, 4, 7, 1, 3, 9, 1, 2, 11, 1, 1, 13, 1, 0, 15, 1);
    six.set(4, 1);
    due("the last of 720", six.bestOrder(), 543210);
    SpunPlates other = Edge.with(0, 15, 1, 1, 13, 1, 2, 11, 1, 3, 9, 1, 4, 7, 1, 5, 5, 1);
    other.set(4, 1);
    due("the first of 720", other.bestOrder(), 12345);
    Edge.says("BEST ORDER, as such a number; NONE: one falls by each. STATE, likewise.");
    due("no plates", new SpunPlates().bestOrder(), STATE);
    SpunPlates one = Edge.with(7, 2, 3);
    due("one alone", one.bestOrder(), 0);
    Edge.turns(one, 0);
    due("though it has fallen", one.bestOrder(), 0);
    SpunPlates two = Edge.with(0, 3, 1, 1, 3, 1);
    due("one falls by each", two.bestOrder(), NONE);
    two = Edge.with(0, 4, 1, 1, 3, 1);
    due("1 is left by 01", two.setUp(1), 1);
    due("one does not fall by it", two.bestOrder(), 1);
  }

  // ---- films

  private static void film() {
    Edge.says("of its TICKS that can be done in how many a RULE would have done the same: LIKE");
    SpunPlates x = Edge.with(0, 10, 1);
    for (int r = 0; r < 4; r++) due("no signs", x.film(r), 0);
    Edge.write(x, "w<w9");
    for (int r = 0; r < 4; r++) due("those ahead of one that can not be done", x.film(r), 1);
    Edge.write(x, "<");
    for (int r = 0; r < 4; r++) due("not one can be done", x.film(r), 0);
    Edge.write(x, "w9w9w9");
    for (int r = 0; r < 4; r++) due("all", x.film(r), 27);
    Edge.write(x, ".9");
    for (int r = 0; r < 4; r++) due("none, he would have wound", x.film(r), 0);
    Edge.write(x, ".9.9");
    for (int r = 0; r < 4; r++) due("ten until it falls, then he stays, too", x.film(r), 8);
    due("nothing was done", x.about(0, 3), 10);
    due("the signs stay", x.told(1), 4);
    SpunPlates none = new SpunPlates();
    for (int i = 0; i < 20; i++) {
      none.say('.');
      none.say('9');
    }
    for (int r = 0; r < 4; r++) due("no plates: he stays, for the longest show", none.film(r), 180);
    Edge.write(none, ">.");
    for (int r = 0; r < 4; r++) due("no plates: he stays", none.film(r), 1);
  }

  private static void goalsOfAFilm() {
    Edge.says("it is WOUND, and he has it no more, when the SHOW WINDS at its PLACE");
    SpunPlates x = Edge.with(0, 15, 1, 1, 15, 1);
    Edge.turns(x, 12, 14);
    Edge.write(x, "w>");
    due("FULL: he has it no more", x.film(0), 2);
    Edge.turns(x, 11, 14);
    due("not FULL: he has it still", x.film(0), 1);
    x.set(2, 1);
    due("PATIENCE: he has it no more, but takes it again", x.film(0), 1);
    Edge.turns(x, 11, 12);
    due("PATIENCE: he has it no more, 13 is more than 11", x.film(0), 2);
    x.set(2, 4);
    Edge.turns(x, 1, 9);
    Edge.write(x, "w2.w2>");
    due("four windings in all, with one tick between", x.film(0), 5);
    Edge.write(x, "w2.w.");
    due("three are not enough", x.film(0), 3);
    x.set(2, 1);
    Edge.turns(x, 5, 6);
    Edge.write(x, ">w<w");
    due("winding another one is not winding his: he goes back and winds", x.film(0), 2);
  }

  private static void doesWhatTheShowDoes() {
    Edge.says("he has GOALS by the RULE, but does what the SHOW does");
    SpunPlates x = Edge.with(0, 15, 1, 7, 15, 1);
    x.set(0, 3);
    Edge.turns(x, 8, 9);
    Edge.write(x, ">4");
    due("0 is his GOAL all the way to the other end", x.film(0), 0);
    Edge.write(x, ">4<7");
    due("and on the way back, until it falls behind the eighth", x.film(0), 4);
    Edge.turns(x, 1, 9);
    Edge.write(x, ">4");
    due("0 falls behind the first, then 1 is his GOAL", x.film(0), 3);
  }

  private static void lagOfAFilm() {
    Edge.says("LAG from the SHOW's beginning on");
    SpunPlates x = Edge.with(0, 15, 1, 1, 15, 3);
    x.set(3, 3);
    for (int i = 0; i < 3; i++) due("he stays", x.tick(0), 3);
    Edge.dueTurns("now", x, 12, 6);
    Edge.write(x, ">");
    due("he sees 6, not the 15 of 3 ticks ago", x.film(0), 1);
  }

  private static void filmRefusals() {
    Edge.says("LIKE of a RULE. OUTSIDE; NO: there is a FAULT.");
    SpunPlates x = Edge.with(0, 10, 1);
    for (int r : new int[] {LOWEST, -1, 4, HIGHEST}) due("rule " + r, x.film(r), OUTSIDE);
    for (String show : new String[] {"1", "w1", "w22", "w2x", "..........................1"}) {
      Edge.write(x, show);
      for (int r = 0; r < 4; r++) due(show + ", rule " + r, x.film(r), NO);
      for (int r : new int[] {-1, 4}) due("OUTSIDE ahead of NO, rule " + r, x.film(r), OUTSIDE);
    }
    Edge.says("WHOSE: the RULE with the most, the least such.");
    SpunPlates y = Edge.with(0, 15, 1, 5, 15, 1, 7, 15, 3);
    Edge.turns(y, 4, 5, 12);
    y.set(0, 3);
    due("no signs: all are like", y.whose(), 0);
    Edge.write(y, "<");
    due("0 and 2", y.whose(), 0);
    Edge.write(y, ">");
    due("1 and 3", y.whose(), 1);
    Edge.write(y, ">3");
    due("3 alone", y.whose(), 3);
    Edge.write(y, ".");
    due("none", y.whose(), 0);
    SpunPlates z = Edge.with(0, 15, 1, 7, 9, 1);
    Edge.write(z, "w");
    due("2 alone", z.whose(), 2);
    due("no plates", new SpunPlates().whose(), 0);
    Edge.says("WHOSE. NO, likewise.");
    for (String show : new String[] {"1", "w1", "w22", "w2x"}) {
      Edge.write(y, show);
      due(show, y.whose(), NO);
    }
  }

  // ---- images, told

  private static void images() {
    Edge.says("All but the PAD is kept in an IMAGE (0, 1): 1. OUTSIDE.");
    SpunPlates x = new SpunPlates();
    for (int n : new int[] {LOWEST, -1, 2, HIGHEST}) due("image " + n, x.image(n), OUTSIDE);
    due("a refused one keeps nothing", x.restore(0), STATE);
    due("a refused one keeps nothing", x.restore(1), STATE);
    x.say('.');
    due("no plates, image 0", x.image(0), 1);
    due("the other one is not", x.restore(1), STATE);
    x.plate(3, 9, 2);
    int[] most = {7, 6, 9, 3, 6};
    for (int w = 0; w < 5; w++) x.set(w, most[w]);
    x.turn(0, 4);
    due("image 1", x.image(1), 1);
    x.say('w');
    x.say('2');
    Edge.says("It is as it was when it was kept: 1. OUTSIDE; STATE: it was not.");
    for (int n : new int[] {LOWEST, -1, 2, HIGHEST}) due("restore " + n, x.restore(n), OUTSIDE);
    due("no plates again", x.restore(0), 1);
    int[] first = {0, 3, 0, 0, 3, 4, 0, 2};
    for (int w = 0; w < 8; w++) due("told(" + w + "), but for the signs", x.told(w), first[w]);
    due("no plate", x.about(0, 0), UNKNOWN);
    due("the signs stay", x.judge(0), 3);
    due("one comes", x.plate(0, 5, 1), 0);
    due("image 1 again", x.restore(1), 1);
    int[] then = {1, 3, 1, 7, 6, 9, 3, 6};
    for (int w = 0; w < 8; w++) due("told(" + w + "), as it was", x.told(w), then[w]);
    int[] about = {3, 9, 2, 4};
    for (int w = 0; w < 4; w++) due("about(0, " + w + "), as it was", x.about(0, w), about[w]);
    x.turn(0, 9);
    due("again", x.restore(1), 1);
    due("and again as it was", x.about(0, 3), 4);
    due("kept anew", x.image(0), 1);
    x.turn(0, 8);
    due("the new one", x.restore(0), 1);
    due("as it was when it was kept anew", x.about(0, 3), 4);
    due("one plate", x.told(0), 1);
  }

  private static void restoredAndFull() {
    Edge.says("It is as it was when it was kept: 1.");
    SpunPlates x = Edge.with(0, 5, 1, 1, 5, 1, 2, 5, 1, 3, 5, 1, 4, 5, 1);
    x.image(0);
    due("the sixth", x.plate(5, 5, 1), 5);
    due("the seventh", x.plate(6, 5, 1), Edge.FULL);
    x.restore(0);
    due("its place is free again", x.plate(5, 6, 2), 5);
    due("with other numbers", x.about(5, 1), 6);
    for (int i = 1; i <= 40; i++) due("sign " + i, x.say('.'), i);
    x.restore(0);
    due("the pad is full still", x.say('.'), Edge.FULL);
  }

  private static void told() {
    Edge.says("0 PLATES, 1 signs, 2 PLATES that have not fallen, as bits, 3 to 7 what set() sets. OUTSIDE.");
    SpunPlates x = Edge.with(0, 5, 1, 1, 5, 1, 2, 5, 1, 3, 5, 1, 4, 5, 1, 5, 5, 1);
    for (int i = 0; i < 40; i++) x.say('~');
    int[] most = {7, 6, 9, 3, 6};
    for (int w = 0; w < 5; w++) x.set(w, most[w]);
    int[] want = {6, 40, 63, 7, 6, 9, 3, 6};
    for (int w = 0; w < 8; w++) due("told(" + w + ")", x.told(w), want[w]);
    for (int w : new int[] {LOWEST, -1, 8, HIGHEST}) due("told(" + w + ")", x.told(w), OUTSIDE);
    Edge.turns(x, 0, 0, 0, 0, 0, 1);
    due("the sixth alone", x.told(2), 32);
    Edge.turns(x, 0, 0, 0, 0, 0, 0);
    due("none", x.told(2), 0);
    due("six still", x.told(0), 6);
  }

  public static void main(String[] args) {
    setsTicks();
    notWound();
    good();
    setUpRefusals();
    bestOrder();
    film();
    goalsOfAFilm();
    doesWhatTheShowDoes();
    lagOfAFilm();
    filmRefusals();
    images();
    restoredAndFull();
    told();
    Due.end("SettingUpEdgesTest");
  }
}
