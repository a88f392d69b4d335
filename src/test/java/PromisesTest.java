/** Each promise of the document by itself, with answers that were reckoned by hand. */
public final class PromisesTest {
  private static final int UNKNOWN = -1, OUTSIDE = -2, STATE = -3, FULL = -4, NO = -5, NONE = -6;
  private static final int LEAST = Integer.MIN_VALUE, MOST = Integer.MAX_VALUE;

  private static void due(String call, int got, int want) {
    Due.due(call, got, want);
  }

  /** Plates as triples of place, full, falls. */
  private static SpunPlates with(int... plates) {
    SpunPlates x = new SpunPlates();
    for (int i = 0; i + 2 < plates.length; i += 3) {
      due("plate " + i / 3, x.plate(plates[i], plates[i + 1], plates[i + 2]), i / 3);
    }
    return x;
  }

  private static void write(SpunPlates x, String show) {
    x.wipe();
    for (int i = 0; i < show.length(); i++) due("say " + show.charAt(i), x.say(show.charAt(i)), i + 1);
  }

  private static void promise1() {
    SpunPlates x = new SpunPlates();
    int[] first = {0, 0, 0, 0, 3, 4, 0, 2};
    for (int i = 0; i < 8; i++) due("1 told " + i, x.told(i), first[i]);
    due("1 fault", x.fault(), NONE);
    due("1 no image", x.restore(0), STATE);
    due("1 no plate", x.about(0, 0), UNKNOWN);
  }

  private static void promise2() {
    SpunPlates x = new SpunPlates();
    int[][] outside = {{-1, 5, 1}, {8, 5, 1}, {0, 1, 1}, {0, 16, 1}, {0, 5, 0}, {0, 5, 4},
        {LEAST, 5, 1}, {MOST, 5, 1}, {0, LEAST, 1}, {0, MOST, 1}, {0, 5, LEAST}, {0, 5, MOST}};
    for (int[] a : outside) due("2 outside", x.plate(a[0], a[1], a[2]), OUTSIDE);
    due("2 none came", x.told(0), 0);
    due("2 least", x.plate(0, 2, 1), 0);
    due("2 most", x.plate(7, 15, 3), 1);
    due("2 full at first", x.about(1, 3), 15);
    due("2 taken", x.plate(7, 5, 1), NO);
    due("2 outside ahead of taken", x.plate(7, 1, 1), OUTSIDE);
    due("2 it falls", x.turn(0, 0), 2);
    due("2 taken by a fallen one", x.plate(0, 5, 1), NO);
    for (int i = 2; i < 6; i++) due("2 number " + i, x.plate(i, 5, 1), i);
    due("2 taken ahead of full", x.plate(3, 5, 1), NO);
    due("2 full", x.plate(6, 5, 1), FULL);
    due("2 outside ahead of full", x.plate(6, 5, 4), OUTSIDE);
    due("2 six", x.told(0), 6);
  }

  private static void promise3() {
    SpunPlates x = with(0, 10, 1, 4, 6, 2);
    due("3 was full", x.turn(0, 4), 10);
    due("3 was 4", x.turn(0, 10), 4);
    due("3 to nothing", x.turn(1, 0), 6);
    due("3 bits", x.told(2), 1);
    due("3 up again", x.turn(1, 6), 0);
    due("3 bits again", x.told(2), 3);
    due("3 above full", x.turn(1, 7), OUTSIDE);
    due("3 below", x.turn(1, -1), OUTSIDE);
    due("3 no such", x.turn(2, 0), UNKNOWN);
    due("3 no such below", x.turn(-1, 3), UNKNOWN);
    due("3 unknown ahead of outside", x.turn(2, 99), UNKNOWN);
    due("3 unchanged", x.about(1, 3), 6);
  }

  private static void promise4() {
    SpunPlates x = new SpunPlates();
    int[] least = {0, 1, 1, 0, 1}, most = {7, 6, 9, 3, 6}, first = {0, 3, 4, 0, 2};
    for (int w = 0; w < 5; w++) {
      due("4 first " + w, x.set(w, most[w]), first[w]);
      due("4 below " + w, x.set(w, least[w] - 1), OUTSIDE);
      due("4 above " + w, x.set(w, most[w] + 1), OUTSIDE);
      due("4 least " + w, x.set(w, least[w]), most[w]);
      due("4 told " + w, x.told(3 + w), least[w]);
      due("4 far " + w, x.set(w, LEAST), OUTSIDE);
    }
    due("4 which below", x.set(-1, 1), OUTSIDE);
    due("4 which above", x.set(5, 1), OUTSIDE);
    due("4 which far", x.set(MOST, 1), OUTSIDE);
  }

  private static void promise5() {
    SpunPlates x = with(6, 11, 3);
    x.turn(0, 9);
    int[] want = {6, 11, 3, 9};
    for (int w = 0; w < 4; w++) due("5 about " + w, x.about(0, w), want[w]);
    due("5 what below", x.about(0, -1), OUTSIDE);
    due("5 what above", x.about(0, 4), OUTSIDE);
    due("5 no such", x.about(1, 0), UNKNOWN);
    due("5 unknown ahead of outside", x.about(-1, 9), UNKNOWN);
  }

  private static void promise6() {
    SpunPlates x = with(0, 5, 1, 1, 6, 3);
    due("6 left of all", x.tick(1), NO);
    due("6 thing below", x.tick(-1), OUTSIDE);
    due("6 thing above", x.tick(4), OUTSIDE);
    due("6 stay", x.tick(0), 3);
    due("6 runs down 0", x.about(0, 3), 4);
    due("6 runs down 1", x.about(1, 3), 3);
    due("6 wind", x.tick(3), 1);
    due("6 not above full", x.about(0, 3), 4);
    due("6 fallen is 0", x.about(1, 3), 0);
    due("6 right", x.tick(2), 1);
    due("6 place", x.told(3), 1);
    due("6 a fallen one is not wound", x.tick(3), NO);
    due("6 right again", x.tick(2), 1);
    due("6 no plate there", x.tick(3), NO);
    due("6 left", x.tick(1), 1);
    due("6 place again", x.told(3), 1);
    x.turn(0, 2);
    due("6 left to the first place", x.tick(1), 1);
    due("6 the first place", x.told(3), 0);
    due("6 the last one falls", x.tick(0), 0);
    due("6 still he stays", x.tick(0), 0);
    x.set(0, 7);
    due("6 right of all", x.tick(2), NO);
    SpunPlates y = with(0, 15, 2);
    y.turn(0, 4);
    y.set(1, 6);
    due("6 gives", y.tick(3), 1);
    due("6 four and six less two", y.about(0, 3), 8);
    y.turn(0, 1);
    due("6 below 0 has fallen", y.tick(0), 0);
    due("6 and is 0", y.about(0, 3), 0);
    y.turn(0, 1);
    y.set(1, 1);
    due("6 wound, and falls still", y.tick(3), 0);
  }

  private static void promise7() {
    SpunPlates x = new SpunPlates();
    due("7 below", x.say(32), OUTSIDE);
    due("7 above", x.say(127), OUTSIDE);
    due("7 far", x.say(LEAST), OUTSIDE);
    due("7 least", x.say(33), 1);
    due("7 most", x.say(126), 2);
    for (int i = 3; i <= 40; i++) due("7 sign " + i, x.say('.'), i);
    due("7 full", x.say('.'), FULL);
    due("7 outside ahead of full", x.say(0), OUTSIDE);
    due("7 forty", x.told(1), 40);
  }

  private static void promise8() {
    SpunPlates x = new SpunPlates();
    due("8 none", x.wipe(), 0);
    write(x, "..3");
    due("8 three", x.wipe(), 3);
    due("8 gone", x.told(1), 0);
    due("8 gone again", x.wipe(), 0);
    due("8 a new beginning", x.say('w'), 1);
  }

  private static void promise9() {
    SpunPlates x = new SpunPlates();
    due("9 no signs", x.fault(), NONE);
    String[] shows = {".", "<>w.", ".2<9>5w2", "2", ".1", ".0", ".22", "w9a", "W", ".:", "w/", "..x.y", "w2.3<4>5!"};
    int[] want = {NONE, NONE, NONE, 0, 1, 1, 2, 2, 0, 1, 1, 2, 8};
    for (int i = 0; i < shows.length; i++) {
      write(x, shows[i]);
      due("9 " + shows[i], x.fault(), want[i]);
    }
  }

  private static void promise10() {
    SpunPlates x = with(0, 10, 1, 2, 4, 2);
    int[] empty = {0, NONE, NONE, 3, 0, 14};
    for (int w = 0; w < 6; w++) due("10 empty " + w, x.judge(w), empty[w]);
    write(x, "w>3");
    int[] done = {4, NONE, 1, 1, 3, 6};
    for (int w = 0; w < 6; w++) due("10 w>3 " + w, x.judge(w), done[w]);
    write(x, ".>2w.2");
    int[] broken = {6, 3, 1, 1, 2, 7};
    for (int w = 0; w < 6; w++) due("10 .>2w.2 " + w, x.judge(w), broken[w]);
    write(x, "<w9");
    int[] none = {10, 0, NONE, 3, 0, 14};
    for (int w = 0; w < 6; w++) due("10 <w9 " + w, x.judge(w), none[w]);
    due("10 nothing was done", x.about(0, 3), 10);
    due("10 below", x.judge(-1), OUTSIDE);
    due("10 above", x.judge(6), OUTSIDE);
    write(x, "3");
    due("10 fault at the first sign", x.judge(0), NO);
    write(x, ".1");
    due("10 fault", x.judge(0), NO);
    due("10 outside ahead of fault", x.judge(6), OUTSIDE);
    x.wipe();
    for (int i = 0; i < 20; i++) {
      x.say('.');
      x.say('9');
    }
    due("10 the longest show", x.judge(0), 180);
    due("10 both have fallen", x.judge(3), 0);
  }

  private static void promise11() {
    SpunPlates x = with(0, 10, 1, 2, 4, 2);
    due("11 empty", x.show(), 0);
    write(x, "w>3");
    due("11 ticks", x.show(), 4);
    due("11 the pad is empty", x.told(1), 0);
    due("11 turn 0", x.about(0, 3), 6);
    due("11 turn 1", x.about(1, 3), 0);
    due("11 place", x.told(3), 3);
    write(x, "<w");
    due("11 a fallen one can not be wound", x.show(), NO);
    due("11 nothing was done", x.told(3), 3);
    due("11 nor wiped", x.told(1), 2);
    write(x, "5");
    due("11 fault", x.show(), NO);
    due("11 nor wiped", x.told(1), 1);
    write(x, ".9");
    due("11 falls are no hindrance", x.show(), 9);
    due("11 all have fallen", x.told(2), 0);
  }

  private static void promise12() {
    SpunPlates x = with(0, 15, 3);
    x.set(1, 1);
    for (int r = 0; r < 4; r++) due("12 winding one tick by tick", x.lasts(r), 7);
    x.set(1, 3);
    for (int r = 0; r < 4; r++) due("12 as much as it loses", x.lasts(r), NONE);
    due("12 below", x.lasts(-1), OUTSIDE);
    due("12 above", x.lasts(4), OUTSIDE);
    x.turn(0, 0);
    due("12 none stands", x.lasts(0), STATE);
    due("12 outside ahead of state", x.lasts(4), OUTSIDE);
    due("12 no plates", new SpunPlates().lasts(0), STATE);
    // One has fallen from the beginning: that is no fall.
    SpunPlates y = with(0, 9, 1, 1, 9, 1);
    y.turn(1, 0);
    due("12 the other one is kept", y.lasts(2), NONE);
    SpunPlates z = with(7, 2, 2);
    due("12 at once", z.lasts(0), 1);
  }

  /** Four rules, four reasons: 0 is the worst and the first, 1 the nearest low one, 2 has least left. */
  private static SpunPlates fourGoals() {
    SpunPlates x = with(0, 15, 1, 5, 15, 1, 7, 15, 3);
    x.turn(0, 4);
    x.turn(1, 5);
    x.turn(2, 12);
    x.set(0, 3);
    return x;
  }

  private static void promise13() {
    SpunPlates x = fourGoals();
    int[] goals = {0, 1, 0, 2};
    int[] places = {2, 4, 2, 4};
    for (int r = 0; r < 4; r++) {
      due("13 no goal at first", x.at(r, 0, -2), NONE);
      due("13 goal " + r, x.at(r, 1, -2), goals[r]);
      due("13 place " + r, x.at(r, 1, -1), places[r]);
      due("13 turn " + r, x.at(r, 1, 2), 9);
    }
    due("13 now", x.at(0, 0, 2), 12);
    due("13 place now", x.at(0, 0, -1), 3);
    x.turn(1, 6);
    due("13 six is not low", x.at(1, 1, -2), 0);
    x.turn(0, 6);
    due("13 like worst ones", x.at(1, 1, -2), 0);
    due("13 in the end one is kept", x.at(0, 600, 0), 14);
    due("13 and the other has fallen", x.at(0, 600, 2), 0);
    SpunPlates z = with(7, 4, 2);
    due("13 it falls", z.at(0, 2, 0), 0);
    due("13 then he has no goal", z.at(0, 3, -2), NONE);
    due("13 and stays where he is", z.at(0, 600, -1), 2);
    due("13 below", x.at(-1, 0, 0), OUTSIDE);
    due("13 above", x.at(4, 0, 0), OUTSIDE);
    due("13 ticks below", x.at(0, -1, 0), OUTSIDE);
    due("13 ticks above", x.at(0, 601, 0), OUTSIDE);
    due("13 no such plate", x.at(0, 0, 3), UNKNOWN);
    due("13 no such plate below", x.at(0, 0, -3), UNKNOWN);
    due("13 unknown ahead of outside", x.at(9, 700, 3), UNKNOWN);
    due("13 no plates", new SpunPlates().at(0, 600, -1), 0);
    due("13 no plates, no goal", new SpunPlates().at(0, 600, -2), NONE);
    patience();
    lag();
    likeFarAndLikeLeft();
    goesRound();
  }

  private static void patience() {
    SpunPlates x = with(0, 15, 1);
    x.turn(0, 1);
    x.set(1, 2);
    due("13 wound for three", x.at(0, 3, -2), 0);
    due("13 wound for four", x.at(0, 4, -2), NONE);
    due("13 and again", x.at(0, 5, -2), 0);
    x.set(2, 2);
    due("13 wound for one", x.at(0, 1, -2), 0);
    due("13 wound for two", x.at(0, 2, -2), NONE);
    x.set(2, 9);
    due("13 full ahead of patience: not yet", x.at(0, 8, -2), 0);
    x.set(1, 6);
    due("13 full: 1 and 6, 6 and 6", x.at(0, 2, -2), 0);
    due("13 full: 11 and 6 are 15", x.at(0, 3, -2), NONE);
  }

  private static void lag() {
    SpunPlates x = with(0, 15, 1, 1, 15, 3);
    x.turn(0, 10);
    x.set(2, 1);
    int[] places = {1, 1, 0, 0};
    for (int lag = 0; lag < 4; lag++) {
      x.set(3, lag);
      due("13 lag " + lag, x.at(0, 3, -1), places[lag]);
    }
    x.turn(1, 14);
    // 14, 11, 8, 5, 2: he goes to it behind the tick at which he sees 11, but for 12 or more at his own place
    for (int lag = 0; lag < 4; lag++) {
      x.set(3, lag);
      for (int t = 1; t <= 5; t++) due("13 lag " + lag + " behind " + t, x.at(0, t, -1), t >= lag + 2 ? 1 : 0);
    }
  }

  private static void likeFarAndLikeLeft() {
    SpunPlates x = with(5, 15, 1, 1, 15, 1);
    x.set(0, 3);
    x.turn(0, 5);
    x.turn(1, 4);
    due("13 like far", x.at(1, 1, -2), 0);
    due("13 worse", x.at(0, 1, -2), 1);
    x.turn(1, 5);
    due("13 like bad", x.at(0, 1, -2), 0);
    due("13 like left", x.at(3, 1, -2), 0);
    SpunPlates y = with(1, 15, 2, 2, 15, 2);
    y.turn(0, 10);
    y.turn(1, 13);
    // 10 / 2 - 1 = 4 and 13 / 2 (cut) - 2 = 4
    due("13 left is cut", y.at(3, 1, -2), 0);
    y.turn(1, 11);
    due("13 less left", y.at(3, 1, -2), 1);
  }

  private static void goesRound() {
    SpunPlates x = with(1, 15, 1, 0, 15, 1, 2, 15, 1);
    x.set(2, 1);
    // 0 at place 1: goes there, winds; then 1 at place 0, then 2 at place 2, then 0 again
    int[] goals = {0, NONE, 1, NONE, 2, 2, NONE, 0, NONE};
    for (int t = 1; t <= goals.length; t++) due("13 round behind " + t, x.at(2, t, -2), goals[t - 1]);
    x.turn(1, 0);
    due("13 fallen ones are passed over", x.at(2, 3, -2), 2);
  }

  private static void promise14() {
    SpunPlates x = with(0, 10, 1);
    for (int r = 0; r < 4; r++) {
      due("14 tick", x.round(r, 0), 1);
      due("14 again", x.round(r, 1), 1);
    }
    x.set(3, 2);
    due("14 what he saw comes again, too", x.round(0, 0), 3);
    due("14 by one still", x.round(0, 1), 1);
    x.set(3, 0);
    x.set(1, 1);
    x.turn(0, 5);
    // wound by one and one less, four times, then no goal: only WOUND differs
    due("14 wound counts", x.round(0, 1), 4);
    due("14 from the first", x.round(0, 0), 1);
    x.set(1, 2);
    x.turn(0, 1);
    // 2 3 4 5 | 6 7 8 9 (full ahead of running down at 10) then full each time
    due("14 first the plate is filled", x.round(0, 0), 8);
    due("14 then by one", x.round(0, 1), 1);
    SpunPlates y = with(3, 4, 2);
    y.set(0, 0);
    due("14 one falls", y.round(0, 0), NONE);
    due("14 one falls, again", y.round(0, 1), NONE);
    due("14 rule", y.round(4, 0), OUTSIDE);
    due("14 what", y.round(0, 2), OUTSIDE);
    due("14 what below", y.round(0, -1), OUTSIDE);
    y.turn(0, 0);
    due("14 none stands", y.round(0, 0), STATE);
    due("14 outside ahead of state", y.round(-1, 0), OUTSIDE);
    lastGoalComesAgain();
  }

  private static void lastGoalComesAgain() {
    // Two full ones side by side, wound in turn: a round of walking and winding, both plates once
    SpunPlates x = with(0, 15, 1, 1, 15, 1);
    x.set(1, 6);
    x.set(2, 1);
    due("14 both once", x.round(2, 1), 4);
  }

  private static void promise15() {
    SpunPlates x = with(0, 15, 1, 7, 4, 2);
    x.set(1, 6);
    due("15 as it is", x.lasts(0), 2);
    due("15 the other way", x.sticks(0, -1), 14);
    due("15 left", x.sticks(0, 0), 1);
    due("15 right", x.sticks(0, 1), 0);
    due("15 no third", x.sticks(0, 2), NONE);
    due("15 no such place at all", x.sticks(0, MOST), NONE);
    due("15 places stay", x.about(0, 0), 0);
    due("15 below the first", x.sticks(0, -2), NONE);
    due("15 far below", x.sticks(3, LEAST), NONE);
    due("15 rule", x.sticks(4, 0), OUTSIDE);
    due("15 rule below", x.sticks(-1, 0), OUTSIDE);
    due("15 outside ahead of none", x.sticks(4, -2), OUTSIDE);
    due("15 outside ahead of none, beyond", x.sticks(-1, 2), OUTSIDE);
    x.turn(0, 0);
    x.turn(1, 0);
    due("15 none stands", x.sticks(0, 0), STATE);
    due("15 none stands, no such", x.sticks(0, 5), STATE);
    due("15 none stands, below", x.sticks(0, -2), STATE);
    due("15 none stands, far below", x.sticks(3, LEAST), STATE);
    due("15 outside ahead of state", x.sticks(4, -2), OUTSIDE);
    due("15 outside ahead of state, rule below", x.sticks(-1, -1), OUTSIDE);
    due("15 no plates, below", new SpunPlates().sticks(0, -2), STATE);
    due("15 no plates, beyond", new SpunPlates().sticks(0, MOST), STATE);
    SpunPlates y = with(3, 9, 1, 0, 9, 1);
    y.turn(1, 0);
    // 0 at place 0 is kept for ever; and it is the first order
    due("15 none falls", y.sticks(0, -1), NONE);
    due("15 from the left", y.sticks(0, 0), 0);
    due("15 then the fallen one", y.sticks(0, 1), 1);
    SpunPlates z = with(6, 2, 1, 5, 2, 1, 4, 2, 1);
    due("15 all alike: the first order", z.sticks(1, 0), 0);
    due("15 all alike: the second", z.sticks(1, 1), 1);
    due("15 all alike: the third", z.sticks(1, 2), 2);
    due("15 all alike: lasts", z.sticks(1, -1), 2);
  }

  private static void promise16() {
    SpunPlates x = new SpunPlates();
    due("16 no plates", x.kept(), STATE);
    x.plate(0, 5, 3);
    due("16 given what it loses", x.kept(), 1);
    x.set(1, 2);
    due("16 given less", x.kept(), 0);
    x.set(1, 6);
    x.plate(1, 15, 1);
    due("16 it can not be left for so long", x.kept(), 0);
    x.turn(0, 0);
    due("16 others are left aside", x.kept(), 1);
    SpunPlates y = with(0, 15, 1, 1, 15, 1, 2, 15, 1);
    due("16 three that need all he gives, and ways between", y.kept(), 0);
    y.set(1, 6);
    due("16 twice as much", y.kept(), 1);
    y.plate(3, 15, 1);
    due("16 four are too many", y.kept(), STATE);
    y.turn(3, 0);
    due("16 a fallen one is no fourth", y.kept(), 1);
    for (int p = 0; p < 3; p++) y.turn(p, 0);
    due("16 none stands", y.kept(), STATE);
  }

  private static void promise17() {
    SpunPlates x = with(0, 15, 3);
    x.set(1, 2);
    due("17 one less a tick", x.longest(), 12);
    x.set(1, 3);
    due("17 kept", x.longest(), NONE);
    x.set(0, 7);
    due("17 he comes too late", x.longest(), 4);
    x.turn(0, 3);
    due("17 not one tick", x.longest(), 0);
    x.turn(0, 0);
    due("17 none stands", x.longest(), STATE);
  }

  private static void promise18() {
    SpunPlates x = with(0, 15, 3);
    x.set(1, 2);
    due("18 winding a full one is no better than staying", x.step(), 0);
    x.turn(0, 14);
    due("18 winding", x.step(), 3);
    x.turn(0, 3);
    due("18 wound for one tick more", x.step(), 3);
    x.turn(0, 1);
    due("18 one falls by each", x.step(), NONE);
    x.set(1, 3);
    due("18 kept by winding", x.step(), 3);
    x.turn(0, 15);
    due("18 kept by staying, too", x.step(), 0);
    x.set(0, 1);
    x.turn(0, 6);
    due("18 kept by going left", x.step(), 1);
    SpunPlates y = with(7, 9, 1);
    y.set(0, 4);
    y.turn(0, 4);
    due("18 kept by going right", y.step(), 2);
    y.turn(0, 0);
    due("18 none stands", y.step(), STATE);
  }

  private static void promise19() {
    SpunPlates x = with(1, 10, 1);
    x.turn(0, 5);
    due("19 at once", x.bow(4), 0);
    due("19 there and one winding", x.bow(5), 2);
    due("19 there and three windings", x.bow(8), 4);
    due("19 never", x.bow(9), NONE);
    x.turn(0, 10);
    due("19 nine at once", x.bow(9), 0);
    due("19 below", x.bow(0), OUTSIDE);
    due("19 above", x.bow(10), OUTSIDE);
    x.turn(0, 0);
    due("19 none stands", x.bow(1), STATE);
    due("19 outside ahead of state", x.bow(10), OUTSIDE);
  }

  private static void promise20() {
    SpunPlates x = with(0, 5, 1);
    due("20 none yet", x.gasps(1, 0), 0);
    due("20 by staying", x.gasps(1, 1), 0);
    due("20 running down", x.gasps(4, 0), 3);
    due("20 and wound at last", x.gasps(5, 0), 4);
    due("20 first he stays", x.gasps(5, 1), 0);
    due("20 four of five, and so on", x.gasps(30, 0), 29);
    x.turn(0, 1);
    due("20 wound", x.gasps(1, 0), 1);
    due("20 by winding alone", x.gasps(1, 1), 3);
    x.set(0, 3);
    due("20 too far", x.gasps(1, 0), NONE);
    due("20 too far for a first thing", x.gasps(1, 1), NONE);
    due("20 n below", x.gasps(0, 0), OUTSIDE);
    due("20 n above", x.gasps(31, 0), OUTSIDE);
    due("20 what below", x.gasps(1, -1), OUTSIDE);
    due("20 what above", x.gasps(1, 2), OUTSIDE);
    x.turn(0, 0);
    due("20 none stands", x.gasps(1, 0), STATE);
    due("20 outside ahead of state", x.gasps(31, 0), OUTSIDE);
    x = with(0, 15, 3);
    x.set(1, 6);
    x.turn(0, 3);
    due("20 winding alone, without a gasp", x.gasps(1, 0), 0);
    due("20 winding alone, the first thing", x.gasps(1, 1), 3);
    SpunPlates y = with(0, 4, 1, 1, 3, 1, 2, 9, 1);
    y.turn(2, 0);
    due("20 two gasp, the fallen one does not", y.gasps(1, 0), 2);
  }

  private static void promise21() {
    SpunPlates x = new SpunPlates();
    due("21 without", x.load(0), 0);
    due("21 without, lower", x.load(1), 1);
    x.plate(0, 9, 2);
    x.plate(1, 9, 1);
    due("21 one", x.load(0), 1);
    due("21 by one", x.load(1), 1);
    x.set(1, 6);
    due("21 a half", x.load(0), 1);
    due("21 a half, lower", x.load(1), 2);
    x.turn(1, 0);
    due("21 two by six", x.load(1), 3);
    x.turn(0, 1);
    due("21 it has not fallen yet", x.load(0), 1);
    for (int p = 2; p < 6; p++) x.plate(p, 9, 3);
    due("21 more than three count", x.load(0), 7);
    due("21 fourteen by six", x.load(1), 3);
    due("21 below", x.load(-1), OUTSIDE);
    due("21 above", x.load(2), OUTSIDE);
  }

  private static void promise22() {
    SpunPlates x = new SpunPlates();
    due("22 no plates", x.setUp(0), STATE);
    due("22 no plates, any number", x.setUp(MOST), STATE);
    due("22 outside ahead of state", x.setUp(-1), OUTSIDE);
    x = with(1, 10, 1, 3, 8, 2);
    due("22 0 first", x.setUp(1), 6);
    due("22 1 first: it is 0 just then", x.setUp(10), 0);
    due("22 one missing", x.setUp(0), OUTSIDE);
    due("22 twice", x.setUp(11), OUTSIDE);
    due("22 no such", x.setUp(2), OUTSIDE);
    due("22 too long", x.setUp(110), OUTSIDE);
    due("22 too long with a nought", x.setUp(101), OUTSIDE);
    due("22 below", x.setUp(LEAST), OUTSIDE);
    due("22 far", x.setUp(MOST), OUTSIDE);
    x.set(4, 1);
    due("22 quicker", x.setUp(10), 2);
    x.turn(0, 0);
    x.turn(1, 1);
    due("22 turns of now do not count", x.setUp(10), 2);
    x.set(0, 7);
    due("22 from where he is", x.setUp(1), 7);
    due("22 turns stay", x.about(1, 3), 1);
    due("22 he stays", x.told(3), 7);
    due("22 one plate", with(7, 4, 3).setUp(0), 4);
  }

  private static void promise23() {
    SpunPlates x = new SpunPlates();
    due("23 no plates", x.bestOrder(), STATE);
    x = with(1, 10, 1, 3, 8, 2);
    due("23 best", x.bestOrder(), 1);
    x.set(4, 6);
    // 0 first: 10 - 8; 1 first: 8 - 16
    due("23 best still", x.bestOrder(), 1);
    x = with(1, 8, 2, 3, 10, 1);
    due("23 the other way round", x.bestOrder(), 10);
    x = with(0, 9, 1, 1, 9, 1, 2, 9, 1);
    x.set(0, 1);
    // by 012 0 is up for 6 ticks; by 021, 102 and so on for one or two more
    due("23 first of several", x.bestOrder(), 12);
    x = with(0, 2, 3, 7, 2, 3);
    due("23 one falls by each", x.bestOrder(), NONE);
    x = with(5, 5, 1, 4, 7, 1, 3, 9, 1, 2, 11, 1, 1, 13, 1, 0, 15, 1);
    x.set(4, 1);
    due("23 the last order of all", x.bestOrder(), 543210);
    due("22 the last order of all", x.setUp(543210), 5);
    x = with(5, 2, 3);
    due("23 one alone", x.bestOrder(), 0);
    x.turn(0, 0);
    due("23 though it has fallen", x.bestOrder(), 0);
  }

  private static void promise24() {
    SpunPlates x = fourGoals();
    due("24 no signs", x.film(0), 0);
    write(x, ">3");
    int[] like = {0, 2, 0, 3};
    for (int r = 0; r < 4; r++) due("24 film " + r, x.film(r), like[r]);
    due("24 below", x.film(-1), OUTSIDE);
    due("24 above", x.film(4), OUTSIDE);
    write(x, "3");
    due("24 fault", x.film(0), NO);
    due("24 outside ahead of fault", x.film(4), OUTSIDE);
    SpunPlates y = with(0, 15, 1, 1, 15, 1);
    y.turn(0, 3);
    y.turn(1, 9);
    write(y, "w4>");
    // His goal is his until it is full or patience ends, as when he goes by the rule.
    for (int r = 0; r < 4; r++) due("24 wound for patience " + r, y.film(r), 5);
    y.set(2, 9);
    for (int r = 0; r < 4; r++) due("24 longer patience " + r, y.film(r), 4);
    write(y, "w4<>");
    due("24 only ticks that can be done", y.film(0), 4);
    y.turn(0, 0);
    y.turn(1, 1);
    write(y, ".2>");
    due("24 all have fallen: he stays", y.film(0), 1);
    due("24 nothing is done", y.about(1, 3), 1);
    due("24 nor wiped", y.told(1), 3);
  }

  private static void promise25() {
    SpunPlates x = fourGoals();
    due("25 no signs", x.whose(), 0);
    write(x, "<");
    due("25 worst ahead of round", x.whose(), 0);
    write(x, ">");
    due("25 near ahead of left", x.whose(), 1);
    write(x, ">3");
    due("25 left", x.whose(), 3);
    write(x, "<5");
    due("25 of ticks that can be done", x.whose(), 0);
    write(x, "..1");
    due("25 fault", x.whose(), NO);
    write(x, "w0");
    due("25 fault at the second sign", x.whose(), NO);
    write(x, "z");
    due("25 fault at the first sign", x.whose(), NO);
    SpunPlates y = with(0, 15, 1, 7, 9, 1);
    write(y, "w");
    due("25 round", y.whose(), 2);
  }

  private static void promise26And27() {
    SpunPlates x = with(1, 6, 2);
    due("26 below", x.image(-1), OUTSIDE);
    due("26 above", x.image(2), OUTSIDE);
    due("27 below", x.restore(-1), OUTSIDE);
    due("27 above", x.restore(2), OUTSIDE);
    due("27 not kept", x.restore(0), STATE);
    due("26 kept", x.image(1), 1);
    due("27 the other one is not kept", x.restore(0), STATE);
    x.plate(4, 9, 1);
    x.turn(0, 2);
    int[] other = {5, 6, 9, 3, 6};
    for (int w = 0; w < 5; w++) x.set(w, other[w]);
    write(x, "w2");
    due("26 kept too", x.image(0), 1);
    due("27 as it was", x.restore(1), 1);
    int[] was = {1, 2, 1, 0, 3, 4, 0, 2};
    for (int w = 0; w < 8; w++) due("27 told " + w, x.told(w), was[w]);
    due("27 turn", x.about(0, 3), 6);
    due("27 no second plate", x.about(1, 0), UNKNOWN);
    due("27 forth", x.restore(0), 1);
    int[] is = {2, 2, 3, 5, 6, 9, 3, 6};
    for (int w = 0; w < 8; w++) due("27 told again " + w, x.told(w), is[w]);
    due("27 turn again", x.about(0, 3), 2);
    x.turn(0, 5);
    due("27 the image is no part of it", x.restore(0), 1);
    due("27 turn of the image", x.about(0, 3), 2);
    x.turn(0, 4);
    due("26 kept anew", x.image(0), 1);
    x.turn(0, 1);
    due("27 anew", x.restore(0), 1);
    due("27 turn anew", x.about(0, 3), 4);
  }

  private static void promise28() {
    SpunPlates x = with(1, 6, 2, 3, 9, 1, 5, 9, 1);
    x.turn(1, 0);
    write(x, "w2z");
    int[] other = {5, 6, 9, 3, 1};
    for (int w = 0; w < 5; w++) x.set(w, other[w]);
    int[] want = {3, 3, 5, 5, 6, 9, 3, 1};
    for (int w = 0; w < 8; w++) due("28 told " + w, x.told(w), want[w]);
    due("28 below", x.told(-1), OUTSIDE);
    due("28 above", x.told(8), OUTSIDE);
    due("28 far below", x.told(LEAST), OUTSIDE);
    due("28 far above", x.told(MOST), OUTSIDE);
  }

  private static void constants() {
    int[] got = {SpunPlates.UNKNOWN, SpunPlates.OUTSIDE, SpunPlates.STATE, SpunPlates.FULL, SpunPlates.NO, SpunPlates.NONE};
    for (int i = 0; i < 6; i++) due("constant " + i, got[i], -1 - i);
  }

  public static void main(String[] args) {
    constants();
    promise1();
    promise2();
    promise3();
    promise4();
    promise5();
    promise6();
    promise7();
    promise8();
    promise9();
    promise10();
    promise11();
    promise12();
    promise13();
    promise14();
    promise15();
    promise16();
    promise17();
    promise18();
    promise19();
    promise20();
    promise21();
    promise22();
    promise23();
    promise24();
    promise25();
    promise26And27();
    promise28();
    Due.end("PromisesTest");
  }
}
