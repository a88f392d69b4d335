/** Every call by its number, on the class and on the model, with the values at and around its told edges. */
final class Calls {
  private static final int LOW = Integer.MIN_VALUE, HIGH = Integer.MAX_VALUE;

  static final String[] NAMES = {"plate", "turn", "set", "tick", "say", "wipe", "show", "image", "restore", "about",
      "fault", "judge", "lasts", "at", "round", "sticks", "kept", "longest", "step", "bow", "gasps", "load", "setUp",
      "bestOrder", "film", "whose", "told"};
  /** The calls from here on only ask. */
  static final int FIRST_QUESTION = 9;

  private static final int[] PLATE = {LOW, -1, 0, 1, 2, 5, 6, HIGH};
  private static final int[] RULE = {LOW, -1, 0, 1, 2, 3, 4, HIGH};
  private static final int[] TWO = {LOW, -1, 0, 1, 2, HIGH};
  /** For each call, for each of its arguments. */
  static final int[][][] EDGES = {
      {{LOW, -1, 0, 3, 6, 7, 8, HIGH}, {LOW, 1, 2, 9, 15, 16, HIGH}, {LOW, 0, 1, 3, 4, HIGH}},
      {PLATE, {LOW, -1, 0, 1, 2, 3, 9, 10, 15, 16, HIGH}},
      {{LOW, -1, 0, 1, 2, 3, 4, 5, HIGH}, {LOW, -1, 0, 1, 3, 4, 6, 7, 8, 9, 10, HIGH}},
      {{LOW, -1, 0, 1, 2, 3, 4, HIGH}},
      {{LOW, 0, 32, 33, '.', '1', '2', '9', ':', '<', '>', 'w', 126, 127, HIGH}},
      {},
      {},
      {TWO},
      {TWO},
      {PLATE, {LOW, -1, 0, 1, 2, 3, 4, HIGH}},
      {},
      {{LOW, -1, 0, 1, 2, 3, 4, 5, 6, HIGH}},
      {RULE},
      {RULE, {LOW, -1, 0, 1, 2, 7, 600, 601, HIGH}, {LOW, -3, -2, -1, 0, 1, 2, 5, 6, HIGH}},
      {RULE, TWO},
      {RULE, {LOW, -2, -1, 0, 1, 2, 5, 6, HIGH}},
      {},
      {},
      {},
      {{LOW, 0, 1, 2, 5, 8, 9, 10, HIGH}},
      {{LOW, 0, 1, 2, 5, 12, 29, 30, 31, HIGH}, TWO},
      {TWO},
      {{LOW, -1, 0, 1, 2, 9, 10, 11, 12, 21, 102, 120, 210, 123, 1023, 3210, 12345, 102345, 543210, 543211, 1012345,
          999999, HIGH}},
      {},
      {RULE},
      {},
      {{LOW, -1, 0, 1, 2, 3, 4, 5, 6, 7, 8, HIGH}},
  };

  private Calls() {
  }

  static int numberOf(String name) {
    for (int i = 0; i < NAMES.length; i++) if (NAMES[i].equals(name)) return i;
    throw new IllegalArgumentException(name);
  }

  static String text(int which, int[] a) {
    StringBuilder b = new StringBuilder(NAMES[which]).append('(');
    for (int i = 0; i < EDGES[which].length; i++) b.append(i == 0 ? "" : ", ").append(a[i]);
    return b.append(')').toString();
  }

  static int of(SpunPlates x, int which, int... a) {
    switch (which) {
      case 0: return x.plate(a[0], a[1], a[2]);
      case 1: return x.turn(a[0], a[1]);
      case 2: return x.set(a[0], a[1]);
      case 3: return x.tick(a[0]);
      case 4: return x.say(a[0]);
      case 5: return x.wipe();
      case 6: return x.show();
      case 7: return x.image(a[0]);
      case 8: return x.restore(a[0]);
      case 9: return x.about(a[0], a[1]);
      case 10: return x.fault();
      case 11: return x.judge(a[0]);
      case 12: return x.lasts(a[0]);
      case 13: return x.at(a[0], a[1], a[2]);
      case 14: return x.round(a[0], a[1]);
      case 15: return x.sticks(a[0], a[1]);
      case 16: return x.kept();
      case 17: return x.longest();
      case 18: return x.step();
      case 19: return x.bow(a[0]);
      case 20: return x.gasps(a[0], a[1]);
      case 21: return x.load(a[0]);
      case 22: return x.setUp(a[0]);
      case 23: return x.bestOrder();
      case 24: return x.film(a[0]);
      case 25: return x.whose();
      default: return x.told(a[0]);
    }
  }

  static int of(Model m, int which, int... a) {
    switch (which) {
      case 0: return m.plate(a[0], a[1], a[2]);
      case 1: return m.turn(a[0], a[1]);
      case 2: return m.set(a[0], a[1]);
      case 3: return m.tick(a[0]);
      case 4: return m.say(a[0]);
      case 5: return m.wipe();
      case 6: return m.show();
      case 7: return m.image(a[0]);
      case 8: return m.restore(a[0]);
      case 9: return m.about(a[0], a[1]);
      case 10: return m.fault();
      case 11: return m.judge(a[0]);
      case 12: return m.lasts(a[0]);
      case 13: return m.at(a[0], a[1], a[2]);
      case 14: return m.round(a[0], a[1]);
      case 15: return m.sticks(a[0], a[1]);
      case 16: return m.kept();
      case 17: return m.longest();
      case 18: return m.step();
      case 19: return m.bow(a[0]);
      case 20: return m.gasps(a[0], a[1]);
      case 21: return m.load(a[0]);
      case 22: return m.setUp(a[0]);
      case 23: return m.bestOrder();
      case 24: return m.film(a[0]);
      case 25: return m.whose();
      default: return m.told(a[0]);
    }
  }
}
