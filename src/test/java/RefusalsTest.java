import java.util.function.Supplier;
import java.util.function.ToIntFunction;

/**
 * The order of the refusals (UNKNOWN, OUTSIDE, STATE, NO, FULL, the first that fits), for each call and each two of
 * them that can fit at once, and that a refused call changes nothing: neither plates, man, settings, pad nor images.
 */
public final class RefusalsTest {
  private static final int UNKNOWN = Edge.UNKNOWN, OUTSIDE = Edge.OUTSIDE, STATE = Edge.STATE, FULL = Edge.FULL,
      NO = Edge.NO, NONE = Edge.NONE;

  // ---- the stages

  private static SpunPlates empty() {
    return new SpunPlates();
  }

  /** Six plates, the last fallen; he is at place 7; the images are of two and of four plates. */
  private static SpunPlates six() {
    SpunPlates x = new SpunPlates();
    for (int p = 0; p < 6; p++) {
      if (p == 2) x.image(0);
      if (p == 4) x.image(1);
      x.plate(p + 2, 9 + p, 1 + p % 3);
    }
    x.turn(1, 4);
    x.turn(5, 0);
    x.set(0, 7);
    x.set(1, 5);
    x.set(2, 6);
    x.set(3, 2);
    x.set(4, 3);
    x.say('<');
    x.say('2');
    return x;
  }

  private static SpunPlates allFallen() {
    SpunPlates x = six();
    for (int p = 0; p < 5; p++) x.turn(p, 0);
    return x;
  }

  private static SpunPlates withFault() {
    SpunPlates x = six();
    x.say('3');
    return x;
  }

  /** The third tick of the show leaves the places. */
  private static SpunPlates withWrongShow() {
    SpunPlates x = six();
    x.say('>');
    x.say('3');
    return x;
  }

  private static SpunPlates withFullPad() {
    SpunPlates x = six();
    for (int i = 2; i < 40; i++) x.say('.');
    return x;
  }

  private static SpunPlates twoPlates() {
    SpunPlates x = new SpunPlates();
    x.plate(3, 9, 1);
    x.plate(5, 9, 1);
    x.image(1);
    x.say('>');
    return x;
  }

  // ---- what is there

  private static void look(SpunPlates x, StringBuilder all) {
    for (int w = 0; w < 8; w++) all.append(x.told(w)).append(' ');
    for (int p = 0; p < 6; p++) {
      for (int w = 0; w < 4; w++) all.append(x.about(p, w)).append(' ');
    }
  }

  /** The object is used up by it: signs are said and images restored. */
  private static String seen(SpunPlates x) {
    StringBuilder all = new StringBuilder();
    look(x, all);
    all.append(x.fault()).append(' ');
    for (int w = 0; w < 6; w++) all.append(x.judge(w)).append(' ');
    for (int r = 0; r < 4; r++) all.append(x.film(r)).append(' ').append(x.lasts(r)).append(' ');
    all.append(x.say('2')).append(' ').append(x.fault()).append(' ').append(x.say('2')).append(' ');
    all.append(x.fault()).append(' ').append(x.wipe()).append(' ');
    for (int n = 0; n < 2; n++) {
      all.append(x.restore(n)).append(' ');
      look(x, all);
    }
    return all.toString();
  }

  private static void refused(String call, Supplier<SpunPlates> stage, ToIntFunction<SpunPlates> made, int want) {
    SpunPlates x = stage.get();
    Edge.due(call, made.applyAsInt(x), want);
    Edge.due(call + ", again", made.applyAsInt(x), want);
    Edge.due(call + " changed nothing", seen(x).equals(seen(stage.get())) ? 1 : 0, 1);
  }

  // ---- the order

  private static void plates() {
    Edge.says("A PLATE, FULL: its number. OUTSIDE; NO: one stands at this PLACE; FULL.");
    refused("OUTSIDE", RefusalsTest::empty, x -> x.plate(8, 9, 1), OUTSIDE);
    refused("NO", RefusalsTest::twoPlates, x -> x.plate(3, 9, 1), NO);
    refused("FULL", RefusalsTest::six, x -> x.plate(0, 9, 1), FULL);
    refused("OUTSIDE ahead of NO", RefusalsTest::twoPlates, x -> x.plate(3, 1, 1), OUTSIDE);
    refused("OUTSIDE ahead of FULL", RefusalsTest::six, x -> x.plate(-1, 9, 1), OUTSIDE);
    refused("OUTSIDE ahead of NO and FULL", RefusalsTest::six, x -> x.plate(2, 9, 0), OUTSIDE);
    refused("NO ahead of FULL", RefusalsTest::six, x -> x.plate(2, 9, 1), NO);
    refused("NO ahead of FULL, where one has fallen", RefusalsTest::six, x -> x.plate(7, 9, 1), NO);
    Edge.says("TURN of a PLATE: which it was. UNKNOWN; OUTSIDE.");
    refused("UNKNOWN", RefusalsTest::six, x -> x.turn(6, 1), UNKNOWN);
    refused("OUTSIDE", RefusalsTest::six, x -> x.turn(0, 10), OUTSIDE);
    refused("UNKNOWN ahead of OUTSIDE", RefusalsTest::six, x -> x.turn(-1, 16), UNKNOWN);
    refused("UNKNOWN ahead of OUTSIDE, no plates", RefusalsTest::empty, x -> x.turn(0, -1), UNKNOWN);
    Edge.says("0 THE MAN's PLACE, 1 GIVES, 2 PATIENCE, 3 LAG, 4 SETS: which it was. OUTSIDE.");
    int[][] outside = {{0, -1}, {0, 8}, {1, 0}, {1, 7}, {2, 0}, {2, 10}, {3, -1}, {3, 4}, {4, 0}, {4, 7}, {-1, 1}, {5, 1}};
    for (int[] o : outside) refused("OUTSIDE " + o[0] + " " + o[1], RefusalsTest::six, x -> x.set(o[0], o[1]), OUTSIDE);
    Edge.says("Of a PLATE: 0 PLACE, 1 FULL, 2 FALLS, 3 TURN. UNKNOWN; OUTSIDE.");
    refused("UNKNOWN", RefusalsTest::six, x -> x.about(6, 0), UNKNOWN);
    refused("OUTSIDE", RefusalsTest::six, x -> x.about(5, 4), OUTSIDE);
    refused("UNKNOWN ahead of OUTSIDE", RefusalsTest::six, x -> x.about(6, 4), UNKNOWN);
  }

  private static void ticksAndShows() {
    Edge.says("OUTSIDE; NO: it can not be done.");
    refused("OUTSIDE", RefusalsTest::six, x -> x.tick(4), OUTSIDE);
    refused("NO: leaving", RefusalsTest::six, x -> x.tick(2), NO);
    refused("NO: winding a fallen one", RefusalsTest::six, x -> x.tick(3), NO);
    refused("NO: leaving, no plates", RefusalsTest::empty, x -> x.tick(1), NO);
    Edge.says("A sign more: how many. OUTSIDE; FULL.");
    refused("OUTSIDE", RefusalsTest::six, x -> x.say(127), OUTSIDE);
    refused("FULL", RefusalsTest::withFullPad, x -> x.say('.'), FULL);
    refused("OUTSIDE ahead of FULL", RefusalsTest::withFullPad, x -> x.say(32), OUTSIDE);
    Edge.says("OUTSIDE; NO: there is a FAULT.");
    refused("OUTSIDE", RefusalsTest::six, x -> x.judge(6), OUTSIDE);
    refused("NO", RefusalsTest::withFault, x -> x.judge(0), NO);
    refused("OUTSIDE ahead of NO", RefusalsTest::withFault, x -> x.judge(-1), OUTSIDE);
    Edge.says("NO: there is a FAULT, or one can not be done.");
    refused("NO: a fault", RefusalsTest::withFault, x -> x.show(), NO);
    refused("NO: one can not be done", RefusalsTest::withWrongShow, x -> x.show(), NO);
  }

  private static void rules() {
    Edge.says("LASTS by a RULE (0 to 3). OUTSIDE; STATE: no PLATE stands.");
    refused("OUTSIDE", RefusalsTest::six, x -> x.lasts(4), OUTSIDE);
    refused("STATE, no plates", RefusalsTest::empty, x -> x.lasts(0), STATE);
    refused("STATE, all fallen", RefusalsTest::allFallen, x -> x.lasts(3), STATE);
    refused("OUTSIDE ahead of STATE", RefusalsTest::allFallen, x -> x.lasts(-1), OUTSIDE);
    Edge.says("his PLACE (plate = -1), his GOAL (-2; NONE). UNKNOWN; OUTSIDE.");
    refused("UNKNOWN", RefusalsTest::six, x -> x.at(0, 600, 6), UNKNOWN);
    refused("OUTSIDE: rule", RefusalsTest::six, x -> x.at(4, 0, 5), OUTSIDE);
    refused("OUTSIDE: ticks", RefusalsTest::six, x -> x.at(0, 601, -2), OUTSIDE);
    refused("UNKNOWN ahead of OUTSIDE: rule", RefusalsTest::six, x -> x.at(4, 0, -3), UNKNOWN);
    refused("UNKNOWN ahead of OUTSIDE: ticks", RefusalsTest::empty, x -> x.at(0, -1, 0), UNKNOWN);
    Edge.says("NONE: one falls, or none comes by 600. OUTSIDE; STATE, likewise.");
    refused("OUTSIDE: rule", RefusalsTest::six, x -> x.round(4, 0), OUTSIDE);
    refused("OUTSIDE: what", RefusalsTest::six, x -> x.round(0, 2), OUTSIDE);
    refused("STATE", RefusalsTest::allFallen, x -> x.round(0, 1), STATE);
    refused("OUTSIDE ahead of STATE: rule", RefusalsTest::allFallen, x -> x.round(-1, 0), OUTSIDE);
    refused("OUTSIDE ahead of STATE: what", RefusalsTest::empty, x -> x.round(3, -1), OUTSIDE);
    Edge.says("NONE (i = -1: none falls; else there is none). OUTSIDE; STATE, likewise.");
    refused("OUTSIDE", RefusalsTest::twoPlates, x -> x.sticks(4, 0), OUTSIDE);
    refused("STATE", RefusalsTest::allFallen, x -> x.sticks(0, 0), STATE);
    refused("STATE, though there is none, too", RefusalsTest::allFallen, x -> x.sticks(0, 6), STATE);
    refused("STATE, though there is none, too", RefusalsTest::empty, x -> x.sticks(3, -2), STATE);
    refused("OUTSIDE ahead of STATE", RefusalsTest::allFallen, x -> x.sticks(-1, -1), OUTSIDE);
    refused("there is none", RefusalsTest::twoPlates, x -> x.sticks(0, 2), NONE);
  }

  private static void exactly() {
    Edge.says("STATE: there are not 1 to 3 PLATES that have not fallen.");
    refused("kept, five stand", RefusalsTest::six, x -> x.kept(), STATE);
    refused("kept, all fallen", RefusalsTest::allFallen, x -> x.kept(), STATE);
    refused("longest, five stand", RefusalsTest::six, x -> x.longest(), STATE);
    refused("longest, all fallen", RefusalsTest::allFallen, x -> x.longest(), STATE);
    refused("step, five stand", RefusalsTest::six, x -> x.step(), STATE);
    refused("step, no plates", RefusalsTest::empty, x -> x.step(), STATE);
    Edge.says("BOW: TICKS; NONE: never. OUTSIDE; STATE, likewise.");
    refused("OUTSIDE", RefusalsTest::twoPlates, x -> x.bow(10), OUTSIDE);
    refused("STATE, five stand", RefusalsTest::six, x -> x.bow(9), STATE);
    refused("OUTSIDE ahead of STATE", RefusalsTest::six, x -> x.bow(0), OUTSIDE);
    Edge.says("NONE: no such SHOW. OUTSIDE; STATE, likewise.");
    refused("OUTSIDE: n", RefusalsTest::twoPlates, x -> x.gasps(31, 0), OUTSIDE);
    refused("OUTSIDE: what", RefusalsTest::twoPlates, x -> x.gasps(30, 2), OUTSIDE);
    refused("STATE, five stand", RefusalsTest::six, x -> x.gasps(30, 1), STATE);
    refused("OUTSIDE ahead of STATE: n", RefusalsTest::empty, x -> x.gasps(0, 0), OUTSIDE);
    refused("OUTSIDE ahead of STATE: what", RefusalsTest::six, x -> x.gasps(1, -1), OUTSIDE);
    Edge.says("LOAD (0 by 1 without). OUTSIDE.");
    refused("OUTSIDE", RefusalsTest::six, x -> x.load(2), OUTSIDE);
    refused("OUTSIDE, no plates", RefusalsTest::empty, x -> x.load(-1), OUTSIDE);
  }

  private static void settingUpAndFilms() {
    Edge.says("OUTSIDE: it is below 0, or, with PLATES, not each of them once; STATE: no PLATES.");
    refused("OUTSIDE: below 0", RefusalsTest::twoPlates, x -> x.setUp(-1), OUTSIDE);
    refused("OUTSIDE: one is missing", RefusalsTest::six, x -> x.setUp(43210), OUTSIDE);
    refused("STATE", RefusalsTest::empty, x -> x.setUp(0), STATE);
    refused("STATE: no order is wrong without plates", RefusalsTest::empty, x -> x.setUp(99), STATE);
    refused("OUTSIDE ahead of STATE", RefusalsTest::empty, x -> x.setUp(-1), OUTSIDE);
    Edge.says("BEST ORDER, as such a number; NONE: one falls by each. STATE, likewise.");
    refused("STATE", RefusalsTest::empty, x -> x.bestOrder(), STATE);
    Edge.says("LIKE of a RULE. OUTSIDE; NO: there is a FAULT.");
    refused("OUTSIDE", RefusalsTest::six, x -> x.film(4), OUTSIDE);
    refused("NO", RefusalsTest::withFault, x -> x.film(0), NO);
    refused("OUTSIDE ahead of NO", RefusalsTest::withFault, x -> x.film(-1), OUTSIDE);
    Edge.says("WHOSE. NO, likewise.");
    refused("NO", RefusalsTest::withFault, x -> x.whose(), NO);
    Edge.says("All but the PAD is kept in an IMAGE (0, 1): 1. OUTSIDE.");
    refused("OUTSIDE", RefusalsTest::six, x -> x.image(2), OUTSIDE);
    refused("OUTSIDE", RefusalsTest::empty, x -> x.image(-1), OUTSIDE);
    Edge.says("It is as it was when it was kept: 1. OUTSIDE; STATE: it was not.");
    refused("OUTSIDE", RefusalsTest::six, x -> x.restore(2), OUTSIDE);
    refused("STATE", RefusalsTest::twoPlates, x -> x.restore(0), STATE);
    refused("OUTSIDE, though it was not kept, too", RefusalsTest::empty, x -> x.restore(-1), OUTSIDE);
    Edge.says("3 to 7 what set() sets. OUTSIDE.");
    refused("OUTSIDE", RefusalsTest::six, x -> x.told(8), OUTSIDE);
    refused("OUTSIDE", RefusalsTest::empty, x -> x.told(-1), OUTSIDE);
  }

  private static void numbers() {
    Edge.says("UNKNOWN -1 (there is no such PLATE), OUTSIDE -2 (another number is not as told), STATE -3 (as told),"
        + " NO -5 (as told), FULL -4.");
    int[] got = {SpunPlates.UNKNOWN, SpunPlates.OUTSIDE, SpunPlates.STATE, SpunPlates.FULL, SpunPlates.NO};
    for (int i = 0; i < got.length; i++) Edge.due("constant " + i, got[i], -1 - i);
    Edge.says("NONE: there is none");
    Edge.due("NONE", SpunPlates.NONE, -6);
  }

  public static void main(String[] args) {
    numbers();
    plates();
    ticksAndShows();
    rules();
    exactly();
    settingUpAndFilms();
    Due.end("RefusalsTest");
  }
}
