/** Each sentence of "1 PLATES, THE MAN, TICKS, SHOWS" and of promises 1 to 11 that names an edge. */
public final class PlatesEdgesTest {
  private static final int UNKNOWN = Edge.UNKNOWN, OUTSIDE = Edge.OUTSIDE, FULL = Edge.FULL, NO = Edge.NO,
      NONE = Edge.NONE, STATE = Edge.STATE, LOWEST = Edge.LOWEST, HIGHEST = Edge.HIGHEST;

  private static void due(String call, int got, int want) {
    Edge.due(call, got, want);
  }

  // ---- Terms: plates, the man, a tick

  private static void sixPlates() {
    Edge.says("PLATES, 6 at most, numbered from 0 on");
    SpunPlates x = new SpunPlates();
    for (int i = 0; i < 6; i++) {
      due("there is none with the next number", x.about(i, 0), UNKNOWN);
      due("plate " + i, x.plate(7 - i, 5, 1), i);
      due("how many", x.told(0), i + 1);
    }
    due("the sixth", x.about(5, 0), 2);
    due("the seventh", x.plate(0, 5, 1), FULL);
    due("still six", x.told(0), 6);
    due("no seventh", x.about(6, 0), UNKNOWN);
    Edge.turns(x, 0, 0, 0, 0, 0, 0);
    due("fallen ones count, too", x.plate(0, 5, 1), FULL);
  }

  private static void unlikePlaces() {
    Edge.says("at unlike PLACES 0 to 7");
    SpunPlates x = new SpunPlates();
    for (int place : new int[] {LOWEST, -2, -1, 8, 9, HIGHEST}) due("at " + place, x.plate(place, 5, 1), OUTSIDE);
    due("none came", x.told(0), 0);
    due("the first place", x.plate(0, 5, 1), 0);
    due("the last place", x.plate(7, 5, 1), 1);
    due("the first one is taken", x.plate(0, 9, 2), NO);
    due("the last one is taken", x.plate(7, 9, 2), NO);
    due("one beside it", x.plate(1, 5, 1), 2);
    due("one beside it", x.plate(6, 5, 1), 3);
    due("it falls", x.turn(0, 0), 5);
    due("a fallen one has its place still", x.plate(0, 9, 2), NO);
  }

  private static void fullAndFalls() {
    Edge.says("FULL (2 to 15)");
    SpunPlates x = new SpunPlates();
    for (int full : new int[] {LOWEST, -2, 0, 1, 16, 17, HIGHEST}) due("full " + full, x.plate(0, full, 1), OUTSIDE);
    due("least", x.plate(0, 2, 1), 0);
    due("most", x.plate(1, 15, 1), 1);
    Edge.says("FALLS (1 to 3)");
    for (int falls : new int[] {LOWEST, -1, 0, 4, 5, HIGHEST}) due("falls " + falls, x.plate(2, 9, falls), OUTSIDE);
    due("least", x.plate(2, 9, 1), 2);
    due("most", x.plate(3, 9, 3), 3);
    due("what it is", x.about(3, 2), 3);
  }

  private static void turnsOfAPlate() {
    Edge.says("TURN (0: it has fallen; to FULL)");
    SpunPlates x = Edge.with(0, 2, 1, 3, 15, 1);
    due("above FULL 2", x.turn(0, 3), OUTSIDE);
    due("above FULL 15", x.turn(1, 16), OUTSIDE);
    due("below", x.turn(1, -1), OUTSIDE);
    due("FULL 15", x.turn(1, 15), 15);
    due("one stands by 1", x.turn(1, 1), 15);
    due("both stand", x.told(2), 3);
    due("one falls by 0", x.turn(1, 0), 1);
    due("it has fallen", x.told(2), 1);
    due("and stands again", x.turn(1, 1), 0);
    due("both stand again", x.told(2), 3);
  }

  private static void atFirst() {
    Edge.says("THE MAN is at a PLACE (0 at first), GIVES 1 to 6 (3 at first)");
    SpunPlates x = new SpunPlates();
    due("his place", x.set(0, 7), 0);
    due("gives", x.set(1, 6), 3);
    due("his place, most", x.set(0, 8), OUTSIDE);
    due("his place, least", x.set(0, -1), OUTSIDE);
    due("gives, most", x.set(1, 7), OUTSIDE);
    due("gives, least", x.set(1, 0), OUTSIDE);
    due("his place was the last", x.set(0, 0), 7);
    due("gives was most", x.set(1, 1), 6);
    due("his place was the first", x.set(0, 0), 0);
    due("gives was least", x.set(1, 1), 1);
  }

  private static void things() {
    Edge.says("he does one thing: 0 stays, 1 goes one PLACE to the left (lower), 2 to the right, 3 WINDS");
    SpunPlates x = Edge.with(3, 15, 1);
    x.set(0, 3);
    for (int thing : new int[] {LOWEST, -1, 4, HIGHEST}) due("thing " + thing, x.tick(thing), OUTSIDE);
    Edge.dueTurns("no tick was done", x, 15);
    due("stays", x.tick(0), 1);
    due("at", x.told(3), 3);
    due("left", x.tick(1), 1);
    due("at", x.told(3), 2);
    due("right", x.tick(2), 1);
    due("at", x.told(3), 3);
    Edge.dueTurns("three less", x, 12);
    due("winds", x.tick(3), 1);
    due("at", x.told(3), 3);
    Edge.dueTurns("three more and one less", x, 14);
  }

  private static void fullAtMost() {
    Edge.says("the PLATE at his PLACE has GIVES more, FULL at most");
    SpunPlates x = Edge.with(0, 10, 1, 1, 10, 1);
    int[][] fromTo = {{1, 3}, {6, 8}, {7, 9}, {8, 9}, {9, 9}, {10, 9}};
    for (int[] t : fromTo) {
      Edge.turns(x, t[0], 5);
      due("wound from " + t[0], x.tick(3), 3);
      Edge.dueTurns("wound from " + t[0] + ", the other one not", x, t[1], 4);
    }
    SpunPlates y = Edge.with(0, 2, 1);
    y.set(1, 6);
    due("the least FULL, the most GIVES", y.tick(3), 1);
    Edge.dueTurns("2 at most", y, 1);
  }

  private static void runningDown() {
    Edge.says("then each PLATE that has not fallen has FALLS less; at 0 or below it has fallen (0)");
    SpunPlates x = Edge.with(1, 9, 3, 2, 9, 3, 3, 9, 3, 4, 9, 1, 5, 9, 1, 6, 9, 2);
    Edge.turns(x, 4, 3, 2, 2, 1, 0);
    due("which stand", x.tick(0), 1 + 8);
    Edge.dueTurns("4 3 2 by 3, 2 1 by 1, a fallen one", x, 1, 0, 0, 1, 0, 0);
    due("which stand", x.tick(0), 0);
    Edge.dueTurns("none below 0", x, 0, 0, 0, 0, 0, 0);
    due("and so on", x.tick(0), 0);
    SpunPlates y = Edge.with(0, 9, 3);
    int[][] givesStands = {{1, 0}, {2, 0}, {3, 1}};
    for (int[] g : givesStands) {
      y.set(1, g[0]);
      Edge.turns(y, 1);
      due("it is wound first: 1 and " + g[0] + " less 3", y.tick(3), g[1]);
      Edge.dueTurns("turn", y, g[1]);
    }
    SpunPlates z = Edge.with(0, 3, 3);
    due("FULL is not enough", z.tick(3), 0);
  }

  private static void leaving() {
    Edge.says("It can not be done to leave PLACES 0 to 7");
    SpunPlates x = new SpunPlates();
    due("left of 0", x.tick(1), NO);
    due("he is there still", x.told(3), 0);
    x.set(0, 1);
    due("left of 1", x.tick(1), 0);
    due("at", x.told(3), 0);
    x.set(0, 6);
    due("right of 6", x.tick(2), 0);
    due("at", x.told(3), 7);
    due("right of 7", x.tick(2), NO);
    due("he is there still", x.told(3), 7);
  }

  private static void windingNothing() {
    Edge.says("or to WIND where no PLATE is that has not fallen");
    SpunPlates x = new SpunPlates();
    due("no plates at all", x.tick(3), NO);
    x.plate(2, 9, 1);
    due("a plate elsewhere", x.tick(3), NO);
    x.set(0, 1);
    due("one place beside it", x.tick(3), NO);
    x.set(0, 3);
    due("one place behind it", x.tick(3), NO);
    x.set(0, 2);
    Edge.turns(x, 0);
    due("it has fallen", x.tick(3), NO);
    Edge.turns(x, 1);
    due("it has not", x.tick(3), 1);
    Edge.dueTurns("wound", x, 3);
  }

  // ---- Terms: shows

  private static void fortySigns() {
    Edge.says("A SHOW is a text of up to 40 signs (codes 33 to 126)");
    SpunPlates x = new SpunPlates();
    for (int sign : new int[] {LOWEST, -1, 0, 31, 32, 127, 128, 255, HIGHEST}) due("say " + sign, x.say(sign), OUTSIDE);
    due("none came", x.told(1), 0);
    due("the least code", x.say(33), 1);
    due("the most", x.say(126), 2);
    for (int i = 3; i <= 40; i++) due("sign " + i, x.say('.'), i);
    due("one more", x.say('.'), FULL);
    due("forty", x.told(1), 40);
    due("one more that is no sign", x.say(127), OUTSIDE);
    due("wiped", x.wipe(), 40);
    due("the first again", x.say('.'), 1);
  }

  private static void parts() {
    Edge.says("each with a digit 2 to 9 behind it, or none (so many TICKS)");
    SpunPlates x = new SpunPlates();
    for (char part : ".<>w".toCharArray()) {
      for (int sign = 33; sign <= 126; sign++) {
        x = new SpunPlates();
        x.say(part);
        x.say(sign);
        boolean digit = sign >= '2' && sign <= '9';
        boolean stands = digit || ".<>w".indexOf(sign) >= 0;
        due("fault of " + part + (char) sign, x.fault(), stands ? NONE : 1);
        due("ticks of " + part + (char) sign, x.judge(0), digit ? sign - '0' : stands ? 2 : NO);
      }
      Edge.write(x, "" + part);
      due("ticks of " + part, x.judge(0), 1);
    }
    Edge.write(x, ".29");
    due("one digit, not two", x.fault(), 2);
    x.wipe();
    for (int i = 0; i < 20; i++) {
      x.say('.');
      x.say('9');
    }
    due("the most ticks of forty signs", x.judge(0), 180);
    due("and they are done", x.show(), 180);
    for (int i = 0; i < 40; i++) x.say('.');
    due("forty parts", x.judge(0), 40);
  }

  private static void theFault() {
    Edge.says("THE FAULT: the place (from 0 on) of the first sign that can not stand there (no signs are a SHOW)");
    SpunPlates x = new SpunPlates();
    due("no signs", x.fault(), NONE);
    for (int sign = 33; sign <= 126; sign++) {
      x.wipe();
      x.say(sign);
      due("the first sign " + (char) sign, x.fault(), ".<>w".indexOf(sign) >= 0 ? NONE : 0);
    }
    x = new SpunPlates();
    for (int i = 0; i < 39; i++) x.say(i % 2 == 0 ? 'w' : '9');
    due("39 without", x.fault(), NONE);
    x.say('1');
    due("the fortieth", x.fault(), 39);
    due("a sign too many does not come there", x.say('x'), FULL);
    due("the fortieth still", x.fault(), 39);
    Edge.write(x, "w2!.1");
    due("the first of several", x.fault(), 2);
    Edge.write(x, "1.2");
    due("the first of all", x.fault(), 0);
    x.wipe();
    due("no signs again", x.fault(), NONE);
    for (int i = 0; i < 40; i++) x.say(i % 2 == 0 ? '<' : '2');
    due("forty without", x.fault(), NONE);
  }

  private static void judgedFromNow() {
    Edge.says("JUDGED from what is now, TICK by TICK");
    SpunPlates x = Edge.with(1, 9, 2);
    Edge.dueJudged("no signs, at first", x, 0, NONE, NONE, 1, 0, 9);
    Edge.write(x, ">w");
    Edge.dueJudged("from 0", x, 2, NONE, NONE, 1, 1, 7);
    Edge.turns(x, 3);
    due("right", x.tick(2), 1);
    Edge.dueJudged("from 1: there is no plate at 2", x, 2, 1, 0, 0, 2, 0);
    Edge.write(x, "w");
    Edge.dueJudged("from 1, wound: 1 and 3 less 2", x, 1, NONE, NONE, 1, 1, 2);
    due("nothing was done", x.told(3), 1);
    Edge.dueTurns("nothing was done", x, 1);
    Edge.dueJudged("no plates, no signs", new SpunPlates(), 0, NONE, NONE, 0, 0, 0);
  }

  private static void firstThatCanNot() {
    Edge.says("the first TICK (from 0 on) that can not be done");
    SpunPlates x = Edge.with(0, 9, 1);
    Edge.write(x, "<");
    due("the first of one", x.judge(1), 0);
    Edge.write(x, "w<");
    due("the last of two", x.judge(1), 1);
    Edge.write(x, ">7");
    due("to the last place", x.judge(1), NONE);
    Edge.write(x, ">8");
    due("one too far", x.judge(1), 7);
    Edge.write(x, ">7<8>");
    due("back, and one too far", x.judge(1), 14);
    Edge.write(x, ".9w");
    due("it has fallen", x.judge(1), 9);
    Edge.write(x, ".8w");
    due("it has not", x.judge(1), NONE);
    Edge.write(x, "");
    due("no ticks", x.judge(1), NONE);
  }

  private static void firstFall() {
    Edge.says("the first behind which a PLATE has fallen that had not");
    SpunPlates x = Edge.with(1, 9, 1, 3, 9, 1, 5, 9, 1);
    Edge.turns(x, 0, 1, 3);
    Edge.write(x, ".");
    due("behind the first", x.judge(2), 0);
    Edge.turns(x, 0, 0, 3);
    due("one that had fallen is none", x.judge(2), NONE);
    Edge.write(x, ".3");
    due("behind the last", x.judge(2), 2);
    Edge.write(x, ".2");
    due("not yet", x.judge(2), NONE);
    Edge.turns(x, 0, 2, 3);
    Edge.write(x, ".9");
    due("the first of two", x.judge(2), 1);
    Edge.write(x, ".<");
    due("none ahead of the one that can not be done", x.judge(2), NONE);
    Edge.write(x, ".2<");
    due("one ahead of it", x.judge(2), 1);
    Edge.write(x, "");
    due("no ticks", x.judge(2), NONE);
  }

  private static void aheadOfOne() {
    Edge.says("the PLATES that stand, his PLACE, the sum of TURNS behind all TICKS ahead of one that can not be done");
    SpunPlates x = Edge.with(0, 10, 1, 2, 4, 2);
    Edge.write(x, "<9");
    Edge.dueJudged("none is ahead of it", x, 9, 0, NONE, 3, 0, 14);
    Edge.write(x, ">w>9");
    Edge.dueJudged("one is ahead of it", x, 11, 1, NONE, 3, 1, 11);
    Edge.write(x, ">2.w2");
    Edge.dueJudged("one falls ahead of it", x, 5, 3, 1, 1, 2, 7);
    Edge.write(x, ">2.8");
    Edge.dueJudged("all fall, all is done", x, 10, NONE, 1, 0, 2, 0);
  }

  private static void allIfTheyCan() {
    Edge.says("A SHOW can be done: all its TICKS, if they can.");
    SpunPlates x = Edge.with(0, 10, 1);
    Edge.write(x, "w2>3<4");
    due("the last one can not", x.show(), NO);
    Edge.dueTurns("none was done", x, 10);
    due("none was done", x.told(3), 0);
    due("the signs stay", x.told(1), 6);
    Edge.write(x, "w2>3<3");
    due("all can", x.show(), 8);
    Edge.dueTurns("all were done", x, 3);
    due("all were done", x.told(3), 0);
    due("the signs go", x.told(1), 0);
    due("no ticks can be done", x.show(), 0);
    Edge.dueTurns("and do nothing", x, 3);
  }

  // ---- Promises 1 to 11

  private static void promise1() {
    Edge.says("No PLATES; the PAD is empty.");
    SpunPlates x = new SpunPlates();
    int[] told = {0, 0, 0, 0, 3, 4, 0, 2};
    for (int w = 0; w < told.length; w++) due("told(" + w + ")", x.told(w), told[w]);
    due("no plate", x.about(0, 0), UNKNOWN);
    due("no signs", x.wipe(), 0);
    due("no image 0", x.restore(0), STATE);
    due("no image 1", x.restore(1), STATE);
    SpunPlates other = Edge.with(3, 9, 1);
    other.say('.');
    other.set(1, 6);
    other.image(0);
    SpunPlates y = new SpunPlates();
    for (int w = 0; w < told.length; w++) due("another one is its own, told(" + w + ")", y.told(w), told[w]);
    due("another one's image is its own", y.restore(0), STATE);
  }

  private static void promise2() {
    Edge.says("A PLATE, FULL: its number. OUTSIDE; NO: one stands at this PLACE; FULL.");
    SpunPlates x = new SpunPlates();
    due("its number", x.plate(4, 11, 2), 0);
    int[] about = {4, 11, 2, 11};
    for (int w = 0; w < 4; w++) due("about(0, " + w + ")", x.about(0, w), about[w]);
    due("OUTSIDE ahead of NO: full", x.plate(4, 1, 1), OUTSIDE);
    due("OUTSIDE ahead of NO: falls", x.plate(4, 9, 4), OUTSIDE);
    due("NO", x.plate(4, 9, 1), NO);
    for (int i = 1; i < 6; i++) due("plate " + i, x.plate(i < 4 ? i : i + 1, 9, 1), i);
    due("NO ahead of FULL", x.plate(4, 9, 1), NO);
    due("OUTSIDE ahead of FULL: place", x.plate(8, 9, 1), OUTSIDE);
    due("OUTSIDE ahead of FULL: full", x.plate(0, 16, 1), OUTSIDE);
    due("OUTSIDE ahead of FULL: falls", x.plate(0, 9, 0), OUTSIDE);
    due("OUTSIDE ahead of NO and FULL", x.plate(4, 16, 1), OUTSIDE);
    due("FULL at 0", x.plate(0, 9, 1), FULL);
    due("FULL at 7", x.plate(7, 9, 1), FULL);
    due("six", x.told(0), 6);
  }

  private static void promise3() {
    Edge.says("TURN of a PLATE: which it was. UNKNOWN; OUTSIDE.");
    SpunPlates x = new SpunPlates();
    due("no plates", x.turn(0, 0), UNKNOWN);
    x = Edge.with(0, 10, 1, 1, 6, 1);
    due("was FULL", x.turn(0, 0), 10);
    due("was 0", x.turn(0, 10), 0);
    due("was FULL again", x.turn(0, 10), 10);
    for (int plate : new int[] {LOWEST, -2, -1, 2, 6, HIGHEST}) {
      due("plate " + plate, x.turn(plate, 1), UNKNOWN);
      due("UNKNOWN ahead of OUTSIDE, plate " + plate, x.turn(plate, -1), UNKNOWN);
      due("UNKNOWN ahead of OUTSIDE, plate " + plate, x.turn(plate, 16), UNKNOWN);
    }
    for (int v : new int[] {LOWEST, -1, 7, 10, HIGHEST}) due("v " + v, x.turn(1, v), OUTSIDE);
    Edge.dueTurns("nothing came of it", x, 10, 6);
  }

  private static void promise4() {
    Edge.says("0 THE MAN's PLACE, 1 GIVES, 2 PATIENCE, 3 LAG, 4 SETS: which it was. OUTSIDE.");
    int[] least = {0, 1, 1, 0, 1}, most = {7, 6, 9, 3, 6}, first = {0, 3, 4, 0, 2};
    SpunPlates x = new SpunPlates();
    for (int w = 0; w < 5; w++) {
      due("at first, which " + w, x.set(w, least[w]), first[w]);
      due("the least, which " + w, x.set(w, most[w]), least[w]);
      due("below it, which " + w, x.set(w, least[w] - 1), OUTSIDE);
      due("above the most, which " + w, x.set(w, most[w] + 1), OUTSIDE);
      due("far below, which " + w, x.set(w, LOWEST), OUTSIDE);
      due("far above, which " + w, x.set(w, HIGHEST), OUTSIDE);
      due("it is as it was, which " + w, x.told(3 + w), most[w]);
    }
    for (int w : new int[] {LOWEST, -1, 5, HIGHEST}) {
      for (int v = 0; v < 8; v++) due("which " + w + ", v " + v, x.set(w, v), OUTSIDE);
    }
    for (int w = 0; w < 5; w++) due("the most, which " + w, x.set(w, first[w]), most[w]);
  }

  private static void promise5() {
    Edge.says("Of a PLATE: 0 PLACE, 1 FULL, 2 FALLS, 3 TURN. UNKNOWN; OUTSIDE.");
    SpunPlates x = new SpunPlates();
    due("no plates", x.about(0, 0), UNKNOWN);
    due("no plates, UNKNOWN ahead of OUTSIDE", x.about(0, 4), UNKNOWN);
    x = Edge.with(7, 15, 3, 0, 2, 1);
    x.turn(0, 0);
    int[][] want = {{7, 15, 3, 0}, {0, 2, 1, 2}};
    for (int p = 0; p < 2; p++) {
      for (int w = 0; w < 4; w++) due("about(" + p + ", " + w + ")", x.about(p, w), want[p][w]);
      for (int w : new int[] {LOWEST, -1, 4, HIGHEST}) due("about(" + p + ", " + w + ")", x.about(p, w), OUTSIDE);
    }
    for (int p : new int[] {LOWEST, -1, 2, HIGHEST}) {
      due("plate " + p, x.about(p, 0), UNKNOWN);
      due("UNKNOWN ahead of OUTSIDE, plate " + p, x.about(p, 4), UNKNOWN);
    }
  }

  private static void promise6() {
    Edge.says("A TICK with a thing (0 to 3): PLATES that have not fallen behind it, as bits. OUTSIDE; NO: it can not be done.");
    SpunPlates x = new SpunPlates();
    due("no plates, no bits", x.tick(0), 0);
    due("below", x.tick(-1), OUTSIDE);
    due("above", x.tick(4), OUTSIDE);
    due("it can not be done", x.tick(3), NO);
    x = Edge.with(0, 9, 1, 1, 9, 1, 2, 9, 1, 3, 9, 1, 4, 9, 1, 5, 9, 1);
    due("six bits", x.tick(0), 63);
    Edge.turns(x, 1, 2, 2, 2, 2, 2);
    due("wound, the others by their last", x.tick(3), 63);
    due("the sixth and the first alone", x.turn(5, 9), 1);
    due("two bits", x.tick(0), 33);
    due("it can not be done", x.tick(1), NO);
    Edge.dueTurns("nothing ran down", x, 2, 0, 0, 0, 0, 8);
  }

  private static void promise7And8() {
    Edge.says("A sign more: how many. OUTSIDE; FULL.");
    SpunPlates x = new SpunPlates();
    for (int i = 1; i <= 40; i++) due("sign " + i, x.say(i % 2 == 0 ? 33 : 126), i);
    due("the next one", x.say(33), FULL);
    due("OUTSIDE ahead of FULL: 32", x.say(32), OUTSIDE);
    due("OUTSIDE ahead of FULL: 127", x.say(127), OUTSIDE);
    Edge.says("Signs go: how many there were.");
    due("forty", x.wipe(), 40);
    due("none", x.wipe(), 0);
    due("none are there", x.told(1), 0);
    due("one", x.say('w'), 1);
    due("one goes", x.wipe(), 1);
  }

  private static void promise9() {
    Edge.says("THE FAULT; NONE.");
    SpunPlates x = new SpunPlates();
    due("no signs", x.fault(), NONE);
    x.say('9');
    due("the first", x.fault(), 0);
    x.say('w');
    due("a good one behind it", x.fault(), 0);
    x.wipe();
    due("wiped", x.fault(), NONE);
  }

  private static void promise10() {
    Edge.says("The SHOW on the PAD JUDGED: 0 TICKS in all, 1 the first TICK that can not be done (NONE)");
    SpunPlates x = Edge.with(1, 9, 1);
    Edge.dueJudged("no signs", x, 0, NONE, NONE, 1, 0, 9);
    for (int w : new int[] {LOWEST, -1, 6, HIGHEST}) due("judge(" + w + ")", x.judge(w), OUTSIDE);
    Edge.write(x, "<9");
    due("all ticks, though none can be done", x.judge(0), 9);
    Edge.write(x, "0");
    for (int w = 0; w < 6; w++) due("NO: there is a FAULT, judge(" + w + ")", x.judge(w), NO);
    due("OUTSIDE ahead of NO", x.judge(-1), OUTSIDE);
    due("OUTSIDE ahead of NO", x.judge(6), OUTSIDE);
    Edge.says("2 the first behind which one more has fallen (NONE), 3 PLATES that stand, as bits, 4 his PLACE, 5 the sum of TURNS");
    x = Edge.with(0, 15, 1, 1, 15, 1, 2, 15, 1, 3, 15, 1, 4, 15, 1, 5, 15, 1);
    x.set(0, 7);
    Edge.dueJudged("the most of all", x, 0, NONE, NONE, 63, 7, 90);
  }

  private static void promise11() {
    Edge.says("The SHOW on the PAD is done (it is empty then): TICKS. NO: there is a FAULT, or one can not be done.");
    SpunPlates x = Edge.with(1, 9, 1);
    due("no signs", x.show(), 0);
    Edge.write(x, "2");
    due("a FAULT at the first sign", x.show(), NO);
    due("the sign stays", x.told(1), 1);
    Edge.write(x, ">1");
    due("a FAULT", x.show(), NO);
    due("the signs stay", x.told(1), 2);
    due("he stays", x.told(3), 0);
    Edge.write(x, "><<");
    due("one can not be done", x.show(), NO);
    due("the signs stay", x.told(1), 3);
    due("he stays", x.told(3), 0);
    Edge.dueTurns("nothing runs down", x, 9);
    Edge.write(x, "><");
    due("both can", x.show(), 2);
    due("the pad is empty", x.told(1), 0);
    due("a sign is the first", x.say('.'), 1);
  }

  public static void main(String[] args) {
    sixPlates();
    unlikePlaces();
    fullAndFalls();
    turnsOfAPlate();
    atFirst();
    things();
    fullAtMost();
    runningDown();
    leaving();
    windingNothing();
    fortySigns();
    parts();
    theFault();
    judgedFromNow();
    firstThatCanNot();
    firstFall();
    aheadOfOne();
    allIfTheyCan();
    promise1();
    promise2();
    promise3();
    promise4();
    promise5();
    promise6();
    promise7And8();
    promise9();
    promise10();
    promise11();
    Due.end("PlatesEdgesTest");
  }
}
