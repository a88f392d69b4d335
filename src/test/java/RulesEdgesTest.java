/** Each sentence of "2 RULES, GOALS, LASTS, AT, ROUND, BEST STICKS" and of promises 12 to 15 that names an edge. */
public final class RulesEdgesTest {
  private static final int UNKNOWN = Edge.UNKNOWN, OUTSIDE = Edge.OUTSIDE, STATE = Edge.STATE, NONE = Edge.NONE,
      LOWEST = Edge.LOWEST, HIGHEST = Edge.HIGHEST;
  private static final int WORST = 0, NEAR = 1, ROUND = 2, LEFT = 3;
  private static final int PLACE = -1, GOAL = -2;

  private static void due(String call, int got, int want) {
    Edge.due(call, got, want);
  }

  /** His goal behind each tick, from the first on. */
  private static void dueGoals(String when, SpunPlates x, int rule, int... goals) {
    for (int t = 1; t <= goals.length; t++) due(when + ", goal behind " + t, x.at(rule, t, GOAL), goals[t - 1]);
  }

  // ---- Terms: what he does

  private static void noneAtFirst() {
    Edge.says("he has a GOAL (a PLATE; none at first)");
    SpunPlates x = Edge.with(0, 9, 1, 5, 9, 1);
    for (int r = 0; r < 4; r++) {
      due("behind no tick, rule " + r, x.at(r, 0, GOAL), NONE);
      due("without plates, rule " + r, new SpunPlates().at(r, 0, GOAL), NONE);
    }
    Edge.turns(x, 3, 9);
    x.say('w');
    due("a film leaves him none", x.film(WORST), 1);
    due("behind no tick still", x.at(WORST, 0, GOAL), NONE);
    due("a tick by hand leaves him none", x.tick(3), 3);
    due("behind no tick still", x.at(WORST, 0, GOAL), NONE);
  }

  private static void fallenGoal() {
    Edge.says("if he has none, or it has fallen, he takes one");
    SpunPlates x = Edge.with(7, 9, 1, 1, 15, 1);
    Edge.turns(x, 2, 15);
    dueGoals("0 falls behind the second tick", x, WORST, 0, 0, 1);
    due("he turns round", x.at(WORST, 2, PLACE), 2);
    due("he turns round", x.at(WORST, 3, PLACE), 1);
    due("and winds", x.at(WORST, 4, 1), 14);
    due("it was full at the winding", x.at(WORST, 4, GOAL), NONE);
    due("at each tick anew", x.at(WORST, 5, GOAL), NONE);
  }

  private static void atItsPlace() {
    Edge.says("if he is at its PLACE he WINDS it");
    SpunPlates x = Edge.with(3, 15, 1);
    Edge.turns(x, 5);
    for (int r = 0; r < 4; r++) {
      for (int man = 2; man <= 4; man++) {
        x.set(0, man);
        due("from " + man + ", behind one tick, rule " + r, x.at(r, 1, 0), man == 3 ? 7 : 4);
        due("from " + man + ", he is there, rule " + r, x.at(r, 1, PLACE), 3);
      }
    }
  }

  private static void woundToFull() {
    Edge.says("when it is FULL behind that TICK's WINDING (ahead of the running down)");
    int[][] turnGoal = {{10, NONE}, {8, NONE}, {7, NONE}, {6, 0}, {5, 0}};
    for (int r = 0; r < 4; r++) {
      SpunPlates x = Edge.with(0, 10, 1);
      for (int[] t : turnGoal) {
        Edge.turns(x, t[0]);
        due("wound from " + t[0] + " to 10 at most, rule " + r, x.at(r, 1, GOAL), t[1]);
        due("then it runs down, rule " + r, x.at(r, 1, 0), Math.min(10, t[0] + 3) - 1);
      }
    }
  }

  private static void patience() {
    Edge.says("or he has WOUND it for PATIENCE TICKS (1 to 9; 4 at first), he has no GOAL any more (and nothing is WOUND)");
    SpunPlates x = Edge.with(0, 15, 1);
    x.set(1, 1);
    Edge.turns(x, 5);
    dueGoals("4 at first", x, WORST, 0, 0, 0, NONE, 0, 0, 0, NONE, 0);
    x.set(2, 1);
    dueGoals("the least", x, WORST, NONE, NONE, NONE);
    x.set(2, 9);
    dueGoals("the most", x, WORST, 0, 0, 0, 0, 0, 0, 0, 0, NONE, 0, 0, 0, 0, 0, 0, 0, 0, NONE);
    due("below", x.set(2, 0), OUTSIDE);
    due("above", x.set(2, 10), OUTSIDE);
    due("the most still", x.told(5), 9);
    x.set(2, 2);
    x.set(0, 2);
    dueGoals("going there is no winding", x, WORST, 0, 0, 0, NONE, 0, NONE);
  }

  private static void towardsIt() {
    Edge.says("else he goes one PLACE towards it");
    SpunPlates x = Edge.with(7, 15, 1);
    for (int t = 0; t <= 9; t++) due("to the right, behind " + t, x.at(WORST, t, PLACE), Math.min(7, t));
    due("not wound on the way", x.at(WORST, 7, 0), 8);
    due("wound at once when he is there", x.at(WORST, 8, 0), 10);
    SpunPlates y = Edge.with(0, 15, 1);
    y.set(0, 7);
    for (int t = 0; t <= 9; t++) due("to the left, behind " + t, y.at(WORST, t, PLACE), Math.max(0, 7 - t));
  }

  private static void allHaveFallen() {
    Edge.says("When all have fallen he stays, without GOAL.");
    SpunPlates x = Edge.with(5, 9, 3);
    for (int r = 0; r < 4; r++) {
      due("it falls behind 3, rule " + r, x.at(r, 3, 0), 0);
      due("then he has none, rule " + r, x.at(r, 4, GOAL), NONE);
      due("he stays, rule " + r, x.at(r, 4, PLACE), 3);
      due("to the end, rule " + r, x.at(r, 600, PLACE), 3);
      due("to the end, rule " + r, x.at(r, 600, GOAL), NONE);
    }
    Edge.turns(x, 0);
    x.set(0, 2);
    for (int r = 0; r < 4; r++) {
      due("fallen from the beginning, rule " + r, x.at(r, 600, PLACE), 2);
      due("fallen from the beginning, rule " + r, x.at(r, 1, GOAL), NONE);
      due("no plates at all, rule " + r, new SpunPlates().at(r, 1, GOAL), NONE);
      due("no plates at all, rule " + r, new SpunPlates().at(r, 600, PLACE), 0);
    }
  }

  // ---- Terms: goals

  private static void notOfFallenOnes() {
    Edge.says("GOALS, of PLATES that have not fallen");
    SpunPlates x = Edge.with(0, 9, 1, 3, 9, 1, 6, 9, 1);
    Edge.turns(x, 0, 9, 0);
    for (int r = 0; r < 4; r++) due("rule " + r, x.at(r, 1, GOAL), 1);
    Edge.turns(x, 0, 0, 9);
    for (int r = 0; r < 4; r++) due("the last one alone, rule " + r, x.at(r, 1, GOAL), 2);
    // 0 falls behind the second tick, while he goes there; with LAG 3 he sees it still as it was.
    x.set(0, 3);
    x.set(1, 6);
    x.set(2, 1);
    x.set(3, 3);
    Edge.turns(x, 2, 1, 0);
    dueGoals("though he sees 2 of it, he does not take it again", x, WORST, NONE, 0, 1);
  }

  private static void worst() {
    Edge.says("0 WORST: that with the least TURN he SEES");
    SpunPlates x = Edge.with(1, 15, 1, 2, 15, 3, 3, 15, 1);
    Edge.turns(x, 7, 6, 5);
    due("the last", x.at(WORST, 1, GOAL), 2);
    Edge.turns(x, 5, 6, 6);
    due("the first", x.at(WORST, 1, GOAL), 0);
    Edge.says("the least PLATE of like ones (NEAR: of like far ones, too)");
    Edge.turns(x, 6, 6, 6);
    due("like ones", x.at(WORST, 1, GOAL), 0);
    Edge.turns(x, 7, 6, 6);
    due("like ones, not the first", x.at(WORST, 1, GOAL), 1);
  }

  private static void near() {
    Edge.says("1 NEAR: the nearest of those of which he SEES a TURN of 5 or less, else WORST");
    SpunPlates x = Edge.with(0, 15, 1, 5, 15, 1, 4, 15, 1);
    x.set(0, 3);
    Edge.turns(x, 4, 5, 6);
    due("6 is too much, 5 is not", x.at(NEAR, 1, GOAL), 1);
    Edge.turns(x, 4, 6, 6);
    due("4 alone is", x.at(NEAR, 1, GOAL), 0);
    Edge.turns(x, 4, 5, 5);
    due("the nearest", x.at(NEAR, 1, GOAL), 2);
    Edge.turns(x, 8, 7, 6);
    due("none: the worst", x.at(NEAR, 1, GOAL), 2);
    Edge.turns(x, 6, 6, 6);
    due("none: the worst of like ones", x.at(NEAR, 1, GOAL), 0);
    x.set(0, 4);
    Edge.turns(x, 1, 1, 5);
    due("the one before him", x.at(NEAR, 1, GOAL), 2);
    Edge.turns(x, 1, 1, 0);
    due("not a fallen one", x.at(NEAR, 1, GOAL), 1);
    Edge.says("the least PLATE of like ones (NEAR: of like far ones, too)");
    SpunPlates y = Edge.with(6, 15, 1, 0, 15, 1);
    y.set(0, 3);
    Edge.turns(y, 5, 1);
    due("like far, to the right", y.at(NEAR, 1, GOAL), 0);
    SpunPlates z = Edge.with(0, 15, 1, 6, 15, 1);
    z.set(0, 3);
    Edge.turns(z, 5, 1);
    due("like far, to the left", z.at(NEAR, 1, GOAL), 0);
  }

  private static void round() {
    Edge.says("2 ROUND: the next one by numbers behind the GOAL that he took last"
        + " (behind the last one again the first; the first at the beginning)");
    SpunPlates x = Edge.with(0, 15, 1, 1, 15, 1);
    x.set(2, 1);
    dueGoals("both in turn", x, ROUND, NONE, 1, NONE, 0, NONE, 1);
    due("behind the last one the first", x.at(ROUND, 4, PLACE), 0);
    SpunPlates y = Edge.with(7, 15, 1, 1, 3, 1);
    due("the first at the beginning, though it is far and FULL", y.at(ROUND, 1, GOAL), 0);
    Edge.turns(y, 0, 3);
    due("the first that has not fallen", y.at(ROUND, 1, GOAL), 1);
    SpunPlates z = Edge.with(0, 2, 1);
    dueGoals("one alone, again and again", z, ROUND, NONE, NONE, NONE);
    due("it is wound each time", z.at(ROUND, 600, 0), 1);
    SpunPlates six = Edge.with(0, 15, 1, 1, 15, 1, 2, 15, 1, 3, 15, 1, 4, 15, 1, 5, 15, 1);
    six.set(2, 1);
    // A tick to the next one and a tick there: the sixth is wound at the 11th, then the first is his goal.
    due("the sixth", six.at(ROUND, 10, GOAL), 5);
    due("it is wound", six.at(ROUND, 11, GOAL), NONE);
    due("the first again", six.at(ROUND, 12, GOAL), 0);
  }

  private static void left() {
    Edge.says("3 LEFT: the least of TURN that he SEES by FALLS (cut) less how far it is");
    SpunPlates x = Edge.with(5, 15, 3, 6, 15, 1);
    Edge.turns(x, 2, 1);
    due("2 by 3 is 0, less 5; 1 less 6: like ones", x.at(LEFT, 1, GOAL), 0);
    Edge.turns(x, 3, 1);
    due("1 less 5; 1 less 6", x.at(LEFT, 1, GOAL), 1);
    Edge.turns(x, 5, 2);
    due("5 by 3 is 1, less 5; 2 less 6: like ones", x.at(LEFT, 1, GOAL), 0);
    Edge.turns(x, 6, 2);
    due("2 less 5; 2 less 6", x.at(LEFT, 1, GOAL), 1);
    SpunPlates y = Edge.with(0, 15, 1, 7, 15, 1);
    Edge.turns(y, 1, 8);
    due("1 less 0; 8 less 7: like ones", y.at(LEFT, 1, GOAL), 0);
    Edge.turns(y, 1, 7);
    due("1 less 0; 7 less 7", y.at(LEFT, 1, GOAL), 1);
  }

  // ---- Terms: what he sees

  private static void sees() {
    Edge.says("He SEES the TURN of a PLATE at his own PLACE as it is");
    SpunPlates x = Edge.with(0, 15, 1, 1, 15, 1);
    x.set(1, 6);
    x.set(2, 1);
    Edge.turns(x, 5, 8);
    for (int lag = 0; lag <= 3; lag++) {
      x.set(3, lag);
      dueGoals("5 and 6 less 1 are more than 8, LAG " + lag, x, WORST, NONE, 1);
    }
    Edge.says("of another one as it was LAG TICKS ago"
        + " (0 to 3; 0 at first; as it was at the beginning, if that is not so long ago)");
    SpunPlates y = Edge.with(0, 15, 1, 1, 15, 3);
    due("0 at first", y.told(6), 0);
    due("below", y.set(3, -1), OUTSIDE);
    due("above", y.set(3, 4), OUTSIDE);
    y.set(2, 1);
    Edge.turns(y, 10, 15);
    // 1 runs down: 15 12 9 6 3; 0 is wound: 10 12 14 14 14; he goes when he sees 1 below 0.
    int[] goesAt = {3, 3, 4, 5};
    for (int lag = 0; lag <= 3; lag++) {
      y.set(3, lag);
      for (int t = 1; t <= 5; t++) {
        due("LAG " + lag + ", place behind " + t, y.at(WORST, t, PLACE), t >= goesAt[lag] ? 1 : 0);
      }
    }
  }

  private static void fromHereOn() {
    Edge.says("GONE by a RULE from what is now (without GOAL, LAG from here on)");
    SpunPlates x = Edge.with(0, 15, 1, 1, 15, 3);
    x.set(3, 3);
    for (int i = 0; i < 3; i++) due("he stays", x.tick(0), 3);
    Edge.dueTurns("now", x, 12, 6);
    due("he sees 6, not the 15 of 3 ticks ago", x.at(WORST, 1, GOAL), 1);
    Edge.turns(x, 6, 7);
    due("and what turn() has told since", x.at(WORST, 1, GOAL), 0);
    due("at no tick it is as it is", x.at(WORST, 0, 0), 6);
    due("at no tick it is as it is", x.at(WORST, 0, 1), 7);
  }

  // ---- Terms and promises 12 and 13

  private static void lasts() {
    Edge.says("LASTS: behind how many TICKS the first PLATE falls (1 to 600; NONE: not by 600)");
    SpunPlates x = Edge.with(7, 15, 1);
    for (int r = 0; r < 4; r++) {
      for (int turn = 1; turn <= 15; turn++) {
        Edge.turns(x, turn);
        due("he is there behind 7 ticks, turn " + turn + ", rule " + r, x.lasts(r), turn <= 7 ? turn : NONE);
      }
    }
    SpunPlates y = Edge.with(0, 15, 3, 7, 15, 1);
    Edge.turns(y, 3, 1);
    due("both behind the first", y.lasts(ROUND), 1);
    Edge.turns(y, 0, 3);
    due("one that had fallen is not the first", y.lasts(ROUND), 3);
    Edge.says("LASTS by a RULE (0 to 3). OUTSIDE; STATE: no PLATE stands.");
    for (int r : new int[] {LOWEST, -1, 4, HIGHEST}) {
      due("rule " + r, y.lasts(r), OUTSIDE);
      due("OUTSIDE ahead of STATE, rule " + r, new SpunPlates().lasts(r), OUTSIDE);
    }
    for (int r = 0; r < 4; r++) due("no plates, rule " + r, new SpunPlates().lasts(r), STATE);
    Edge.turns(y, 0, 0);
    for (int r = 0; r < 4; r++) due("all have fallen, rule " + r, y.lasts(r), STATE);
    due("OUTSIDE ahead of STATE", y.lasts(4), OUTSIDE);
    Edge.turns(y, 0, 1);
    for (int r = 0; r < 4; r++) due("one stands, rule " + r, y.lasts(r), 1);
  }

  private static void at() {
    Edge.says("AT behind so many TICKS (0 to 600) by a RULE: TURN of a PLATE,"
        + " his PLACE (plate = -1), his GOAL (-2; NONE). UNKNOWN; OUTSIDE.");
    SpunPlates x = Edge.with(0, 10, 1, 1, 9, 1);
    Edge.turns(x, 10, 0);
    for (int r = 0; r < 4; r++) {
      due("no ticks, turn", x.at(r, 0, 0), 10);
      due("no ticks, a fallen one", x.at(r, 0, 1), 0);
      due("600, turn", x.at(r, 600, 0), 9);
      due("600, a fallen one", x.at(r, 600, 1), 0);
      due("600, place", x.at(r, 600, PLACE), 0);
      due("600, goal", x.at(r, 600, GOAL), NONE);
      for (int plate = -2; plate <= 1; plate++) {
        due("ticks below", x.at(r, -1, plate), OUTSIDE);
        due("ticks above", x.at(r, 601, plate), OUTSIDE);
        due("ticks far below", x.at(r, LOWEST, plate), OUTSIDE);
        due("ticks far above", x.at(r, HIGHEST, plate), OUTSIDE);
      }
    }
    for (int plate = -2; plate <= 1; plate++) {
      for (int r : new int[] {LOWEST, -1, 4, HIGHEST}) due("rule " + r, x.at(r, 1, plate), OUTSIDE);
    }
    for (int plate : new int[] {LOWEST, -4, -3, 2, 6, HIGHEST}) {
      due("plate " + plate, x.at(0, 1, plate), UNKNOWN);
      due("UNKNOWN ahead of OUTSIDE: rule", x.at(4, 1, plate), UNKNOWN);
      due("UNKNOWN ahead of OUTSIDE: ticks", x.at(0, 601, plate), UNKNOWN);
      due("UNKNOWN ahead of OUTSIDE: both", x.at(-1, -1, plate), UNKNOWN);
    }
    due("no plates", new SpunPlates().at(0, 1, 0), UNKNOWN);
    due("no plates, his place", new SpunPlates().at(0, 0, PLACE), 0);
    due("no plates, rule", new SpunPlates().at(4, 0, PLACE), OUTSIDE);
    SpunPlates y = Edge.with(0, 15, 1);
    y.set(1, 1);
    y.set(2, 9);
    Edge.turns(y, 5);
    // Behind each ninth tick he has none: 594 is one, 603 the next.
    due("594, goal", y.at(WORST, 594, GOAL), NONE);
    due("600, goal", y.at(WORST, 600, GOAL), 0);
    due("nothing was done", y.about(0, 3), 5);
  }

  // ---- Terms and promise 14

  private static void comesAgain() {
    Edge.says("ROUND: if none falls: the first TICK (0 on) behind which all is as behind some later one (by 600),"
        + " and by how many TICKS it comes again");
    SpunPlates x = Edge.with(0, 10, 1);
    Edge.turns(x, 9);
    for (int r = 0; r < 4; r++) {
      due("the last GOAL is none at the beginning, so not 0, rule " + r, x.round(r, 0), 1);
      due("at each tick, rule " + r, x.round(r, 1), 1);
    }
    SpunPlates y = Edge.with(0, 9, 1, 3, 9, 1);
    Edge.turns(y, 9, 0);
    due("one that had fallen is no fall", y.round(WORST, 1), 1);
    Edge.turns(y, 9, 1);
    due("one falls", y.round(WORST, 0), NONE);
    due("one falls", y.round(WORST, 1), NONE);
    Edge.says("PLACE, TURNS, GOAL, WOUND, the last GOAL, and TURNS of LAG TICKS ago and since");
    Edge.turns(x, 10);
    for (int lag = 0; lag <= 3; lag++) {
      x.set(3, lag);
      due("10 9 9 9 ..: the 10 is out of sight, LAG " + lag, x.round(WORST, 0), lag + 1);
      due("at each tick, LAG " + lag, x.round(WORST, 1), 1);
    }
    x.set(3, 0);
    x.set(1, 1);
    for (int patience = 1; patience <= 9; patience++) {
      x.set(2, patience);
      Edge.turns(x, 5);
      due("WOUND 1 to " + patience, x.round(WORST, 1), patience);
      due("from the first tick on", x.round(WORST, 0), 1);
    }
    SpunPlates z = Edge.with(0, 15, 1, 1, 15, 1);
    z.set(1, 6);
    z.set(2, 1);
    due("both GOALS once, and both ways", z.round(ROUND, 1), 4);
    eachPartOfAll();
    highNumbers();
    farOnes();
  }

  /** A stage for a round: the settings but SETS, then place, full, falls and turn of each plate. */
  private static SpunPlates stage(int man, int gives, int patience, int lag, int[]... plates) {
    SpunPlates x = new SpunPlates();
    for (int p = 0; p < plates.length; p++) {
      due("plate " + p, x.plate(plates[p][0], plates[p][1], plates[p][2]), p);
      due("turn of " + p, x.turn(p, plates[p][3]), plates[p][1]);
    }
    int[] settings = {man, gives, patience, lag};
    for (int w = 0; w < 4; w++) x.set(w, settings[w]);
    return x;
  }

  private static void dueRound(String why, SpunPlates x, int rule, int first, int again) {
    due(why + ", the tick", x.round(rule, 0), first);
    due(why + ", again by", x.round(rule, 1), again);
    due(why + ", none falls", x.lasts(rule), NONE);
  }

  /** In each of these two ticks differ in one part alone: without it the round would come sooner. */
  private static void eachPartOfAll() {
    // Behind 1 and 7 all is alike (10 8, seen late 11 9, GOAL 1), but he is at 4 and at 6.
    SpunPlates x = stage(3, 6, 5, 1, new int[] {7, 12, 1, 11}, new int[] {5, 13, 1, 9});
    dueRound("the PLACE is a part of it", x, WORST, 2, 6);
    // 11 13 14 14: he has wound it each time, and has no GOAL.
    dueRound("TURNS are a part of it", stage(1, 3, 1, 0, new int[] {1, 15, 1, 11}), NEAR, 2, 1);
    // Behind 1 he has come to it at 3; behind 2 it was wound from 3 to 4 and is at 3 again, without GOAL.
    dueRound("the GOAL is a part of it", stage(5, 5, 1, 0, new int[] {4, 4, 1, 4}), NEAR, 2, 1);
    // Behind 1 he has come to it at 2; behind 2 to 9 he has wound it 1 to 8 times, and it is at 2 still.
    dueRound("WOUND is a part of it", stage(6, 1, 9, 0, new int[] {7, 5, 1, 3}), LEFT, 2, 9);
    dueRound("the last GOAL is a part of it", stage(6, 3, 3, 0, new int[] {6, 6, 1, 5}), WORST, 1, 1);
    // 10 9 9 9 9, without GOAL from behind 2 on: behind 2 he sees 10 late, and behind 3; behind 4 no more.
    dueRound("TURNS since are a part of it", stage(6, 2, 8, 3, new int[] {5, 10, 1, 10}), WORST, 4, 1);
  }

  /** Fallen ones ahead of those that stand: GOALS with high numbers are told apart, too. */
  private static void highNumbers() {
    int[] fallen = {4, 5, 1, 0}, second = {5, 10, 2, 0}, third = {1, 4, 2, 0};
    // Behind 1 he is at 3 with GOAL 3, behind 5 without GOAL, 4 the last one; turns 4 6 both times.
    SpunPlates x = stage(4, 6, 9, 0, fallen, second, third, new int[] {2, 7, 1, 5}, new int[] {3, 7, 1, 7});
    dueRound("GOAL 3, and 4 the last GOAL", x, NEAR, 2, 4);
    // He comes to it at 4, winds it to 7 (4 again), winds it again and has no GOAL.
    SpunPlates y = stage(3, 3, 2, 0, fallen, second, third, new int[] {2, 12, 3, 7});
    dueRound("3 the last GOAL, WOUND once or not", y, ROUND, 2, 2);
  }

  /** The farthest that were found among many millions of starts, by a program of its own. */
  private static void farOnes() {
    SpunPlates x = stage(5, 3, 1, 3, new int[] {2, 15, 1, 6}, new int[] {1, 15, 1, 7});
    due("a late fall", x.lasts(LEFT), 113);
    due("no round", x.round(LEFT, 0), NONE);
    due("no round", x.round(LEFT, 1), NONE);
    dueRound("a late round", stage(3, 6, 2, 2, new int[] {3, 15, 1, 9}, new int[] {2, 10, 1, 2},
        new int[] {4, 14, 1, 8}), NEAR, 129, 23);
    dueRound("a long round", stage(4, 6, 2, 3, new int[] {3, 12, 1, 12}, new int[] {4, 15, 1, 15},
        new int[] {5, 10, 1, 5}), WORST, 40, 59);
  }

  private static void roundRefusals() {
    Edge.says("ROUND by a RULE: the TICK (what = 0), how many until it comes again (1);"
        + " NONE: one falls, or none comes by 600. OUTSIDE; STATE, likewise.");
    SpunPlates x = Edge.with(0, 9, 1);
    SpunPlates none = new SpunPlates();
    for (int r : new int[] {LOWEST, -1, 4, HIGHEST}) {
      for (int what = -1; what <= 2; what++) {
        due("rule " + r + ", what " + what, x.round(r, what), OUTSIDE);
        due("OUTSIDE ahead of STATE, rule " + r + ", what " + what, none.round(r, what), OUTSIDE);
      }
    }
    for (int r = 0; r < 4; r++) {
      for (int what : new int[] {LOWEST, -1, 2, HIGHEST}) {
        due("what " + what, x.round(r, what), OUTSIDE);
        due("OUTSIDE ahead of STATE, what " + what, none.round(r, what), OUTSIDE);
      }
      due("no plates", none.round(r, 0), STATE);
      due("no plates", none.round(r, 1), STATE);
    }
    Edge.turns(x, 0);
    due("all have fallen", x.round(0, 0), STATE);
    due("all have fallen", x.round(3, 1), STATE);
  }

  // ---- Terms and promise 15

  private static void bestSticks() {
    Edge.says("PLATES are put on the same PLACES in any order (TURNS go with them): LASTS is greatest (NONE most of all),"
        + " of several the first by PLACES from the left (PLATES' numbers)");
    SpunPlates x = Edge.with(6, 9, 1, 4, 9, 1, 2, 9, 1);
    Edge.turns(x, 2, 2, 2);
    due("all alike: lasts", x.sticks(WORST, -1), 2);
    for (int i = 0; i < 3; i++) due("all alike: the first order, " + i, x.sticks(WORST, i), i);
    Edge.turns(x, 9, 9, 0);
    x.set(0, 2);
    x.set(1, 6);
    due("the fallen one has a place, too", x.sticks(ROUND, 2) >= 0 ? 1 : 0, 1);
    SpunPlates y = Edge.with(0, 15, 1, 7, 15, 1);
    Edge.turns(y, 15, 3);
    due("as it is", y.lasts(WORST), 3);
    due("3 goes with its plate: left", y.sticks(WORST, 0), 1);
    due("3 goes with its plate: right", y.sticks(WORST, 1), 0);
    SpunPlates z = Edge.with(5, 9, 1, 0, 9, 1);
    Edge.turns(z, 0, 9);
    // Each way round he winds the one that stands for ever, so the first order is it.
    due("none falls", z.sticks(WORST, -1), NONE);
    due("none falls: left", z.sticks(WORST, 0), 0);
    due("none falls: right", z.sticks(WORST, 1), 1);
    Edge.turns(z, 0, 5);
    // At 5 it is reached too late (0 1 order); at 0 it is kept, and NONE is most of all.
    due("NONE is more than 5", z.sticks(WORST, -1), NONE);
    due("NONE is more than 5: left", z.sticks(WORST, 0), 1);
    due("NONE is more than 5: right", z.sticks(WORST, 1), 0);
    due("their places stay", z.about(0, 0), 5);
    due("their turns stay", z.about(1, 3), 5);
  }

  /** Three plates set in each order by hand: what lasts() says of each is compared. */
  private static void bestOfSix() {
    int[][] orders = {{0, 1, 2}, {0, 2, 1}, {1, 0, 2}, {1, 2, 0}, {2, 0, 1}, {2, 1, 0}};
    int[] places = {1, 4, 6}, fulls = {9, 12, 15}, falls = {2, 1, 3};
    for (int man = 0; man < 8; man++) {
      for (int r = 0; r < 4; r++) {
        int best = -1;
        int most = -1;
        for (int o = 0; o < 6; o++) {
          int[] placeOf = new int[3];
          for (int k = 0; k < 3; k++) placeOf[orders[o][k]] = places[k];
          SpunPlates x = new SpunPlates();
          for (int p = 0; p < 3; p++) x.plate(placeOf[p], fulls[p], falls[p]);
          x.set(0, man);
          int lasting = x.lasts(r) == NONE ? 601 : x.lasts(r);
          if (lasting > most) {
            most = lasting;
            best = o;
          }
        }
        SpunPlates y = Edge.with(6, 9, 2, 1, 12, 1, 4, 15, 3);
        y.set(0, man);
        due("lasts, from " + man + ", rule " + r, y.sticks(r, -1), most > 600 ? NONE : most);
        for (int k = 0; k < 3; k++) due("stick " + k + ", from " + man + ", rule " + r, y.sticks(r, k), orders[best][k]);
      }
    }
  }

  private static void sticksRefusals() {
    Edge.says("BEST STICKS by a RULE: LASTS (i = -1), the PLATE on the i-th PLACE from the left;"
        + " NONE (i = -1: none falls; else there is none). OUTSIDE; STATE, likewise.");
    SpunPlates x = Edge.with(0, 2, 1, 1, 2, 1, 3, 2, 1, 4, 2, 1, 6, 2, 1, 7, 2, 1);
    Edge.turns(x, 1, 1, 1, 1, 1, 1);
    SpunPlates none = new SpunPlates();
    for (int r : new int[] {LOWEST, -1, 4, HIGHEST}) {
      for (int i : new int[] {LOWEST, -2, -1, 0, 5, 6, HIGHEST}) {
        due("rule " + r + ", i " + i, x.sticks(r, i), OUTSIDE);
        due("OUTSIDE ahead of STATE, rule " + r + ", i " + i, none.sticks(r, i), OUTSIDE);
      }
    }
    for (int r = 0; r < 4; r++) {
      due("lasts", x.sticks(r, -1), 1);
      due("the first place", x.sticks(r, 0), 0);
      due("the sixth place", x.sticks(r, 5), 5);
      for (int i : new int[] {LOWEST, -3, -2, 6, 7, HIGHEST}) due("there is none, i " + i, x.sticks(r, i), NONE);
      for (int i : new int[] {LOWEST, -2, -1, 0, 6, HIGHEST}) due("STATE, i " + i, none.sticks(r, i), STATE);
    }
    SpunPlates one = Edge.with(0, 9, 1);
    due("one plate", one.sticks(0, 0), 0);
    due("one plate, no second", one.sticks(0, 1), NONE);
    due("one plate, none falls", one.sticks(0, -1), NONE);
    Edge.turns(one, 0);
    due("it has fallen", one.sticks(0, -1), STATE);
    due("it has fallen, i = 0", one.sticks(0, 0), STATE);
    due("it has fallen, i = 1", one.sticks(0, 1), STATE);
  }

  public static void main(String[] args) {
    noneAtFirst();
    fallenGoal();
    atItsPlace();
    woundToFull();
    patience();
    towardsIt();
    allHaveFallen();
    notOfFallenOnes();
    worst();
    near();
    round();
    left();
    sees();
    fromHereOn();
    lasts();
    at();
    comesAgain();
    roundRefusals();
    bestSticks();
    bestOfSix();
    sticksRefusals();
    Due.end("RulesEdgesTest");
  }
}
