import java.util.ArrayList;
import java.util.Arrays;
import java.util.HashMap;
import java.util.HashSet;
import java.util.List;
import java.util.Map;
import java.util.Set;
import java.util.regex.Pattern;

/**
 * The document once more, written in another way and without thought for speed or room: what the class
 * answers is compared with it call by call.
 */
final class Model {
  static final int UNKNOWN = -1, OUTSIDE = -2, STATE = -3, FULL = -4, NO = -5, NONE = -6;

  static final class Plate {
    int place, full, falls, turn;

    Plate(int place, int full, int falls, int turn) {
      this.place = place;
      this.full = full;
      this.falls = falls;
      this.turn = turn;
    }
  }

  /** All but the pad. */
  static final class Scene {
    final List<Plate> plates = new ArrayList<>();
    int man = 0, gives = 3, patience = 4, lag = 0, sets = 2;

    Scene copy() {
      Scene s = new Scene();
      for (Plate p : plates) s.plates.add(new Plate(p.place, p.full, p.falls, p.turn));
      s.man = man;
      s.gives = gives;
      s.patience = patience;
      s.lag = lag;
      s.sets = sets;
      return s;
    }

    Plate upAt(int place) {
      for (Plate p : plates) if (p.place == place && p.turn > 0) return p;
      return null;
    }

    boolean possible(char c) {
      if (c == '<') return man != 0;
      if (c == '>') return man != 7;
      return c == '.' || upAt(man) != null;
    }

    /** True if the plate that was wound is full ahead of the running down. */
    boolean perform(char c) {
      boolean full = false;
      if (c == '<') man--;
      if (c == '>') man++;
      if (c == 'w') {
        Plate p = upAt(man);
        p.turn = Math.min(p.turn + gives, p.full);
        full = p.turn == p.full;
      }
      for (Plate p : plates) if (p.turn > 0) p.turn = Math.max(p.turn - p.falls, 0);
      return full;
    }

    List<Integer> turns() {
      List<Integer> t = new ArrayList<>();
      for (Plate p : plates) t.add(p.turn);
      return t;
    }

    int bits() {
      int b = 0;
      for (int i = 0; i < plates.size(); i++) if (plates.get(i).turn > 0) b += 1 << i;
      return b;
    }
  }

  private static final String THINGS = ".<>w";
  private static final Pattern SHOW = Pattern.compile("([.<>w][2-9]?)*");

  Scene now = new Scene();
  final Scene[] images = new Scene[2];
  String pad = "";

  // ---- 1

  int plate(int place, int full, int falls) {
    if (place < 0 || place > 7 || full < 2 || full > 15 || falls < 1 || falls > 3) return OUTSIDE;
    for (Plate p : now.plates) if (p.place == place) return NO;
    if (now.plates.size() == 6) return FULL;
    now.plates.add(new Plate(place, full, falls, full));
    return now.plates.size() - 1;
  }

  private boolean unknown(int plate) {
    return plate < 0 || plate >= now.plates.size();
  }

  int turn(int plate, int v) {
    if (unknown(plate)) return UNKNOWN;
    Plate p = now.plates.get(plate);
    if (v < 0 || v > p.full) return OUTSIDE;
    int was = p.turn;
    p.turn = v;
    return was;
  }

  int set(int which, int v) {
    int was;
    if (which == 0 && v >= 0 && v <= 7) { was = now.man; now.man = v; return was; }
    if (which == 1 && v >= 1 && v <= 6) { was = now.gives; now.gives = v; return was; }
    if (which == 2 && v >= 1 && v <= 9) { was = now.patience; now.patience = v; return was; }
    if (which == 3 && v >= 0 && v <= 3) { was = now.lag; now.lag = v; return was; }
    if (which == 4 && v >= 1 && v <= 6) { was = now.sets; now.sets = v; return was; }
    return OUTSIDE;
  }

  int about(int plate, int what) {
    if (unknown(plate)) return UNKNOWN;
    Plate p = now.plates.get(plate);
    if (what == 0) return p.place;
    if (what == 1) return p.full;
    if (what == 2) return p.falls;
    if (what == 3) return p.turn;
    return OUTSIDE;
  }

  int tick(int thing) {
    if (thing < 0 || thing > 3) return OUTSIDE;
    char c = THINGS.charAt(thing);
    if (!now.possible(c)) return NO;
    now.perform(c);
    return now.bits();
  }

  int say(int sign) {
    if (sign < 33 || sign > 126) return OUTSIDE;
    if (pad.length() == 40) return FULL;
    pad += (char) sign;
    return pad.length();
  }

  int wipe() {
    int n = pad.length();
    pad = "";
    return n;
  }

  /** The longest beginning of the pad that is a show, or goes on as one, ends at the fault. */
  int fault() {
    for (int i = 1; i <= pad.length(); i++) {
      if (!SHOW.matcher(pad.substring(0, i)).matches()) return i - 1;
    }
    return NONE;
  }

  private String ticksOfShow() {
    StringBuilder all = new StringBuilder();
    for (int i = 0; i < pad.length(); i++) {
      char c = pad.charAt(i);
      if (Character.isDigit(c)) {
        for (int k = 1; k < c - '0'; k++) all.append(pad.charAt(i - 1));
      } else {
        all.append(c);
      }
    }
    return all.toString();
  }

  int judge(int what) {
    if (what < 0 || what > 5) return OUTSIDE;
    if (fault() != NONE) return NO;
    String all = ticksOfShow();
    Scene s = now.copy();
    int cannot = NONE, fallen = NONE;
    for (int i = 0; i < all.length(); i++) {
      if (!s.possible(all.charAt(i))) { cannot = i; break; }
      int before = s.bits();
      s.perform(all.charAt(i));
      if (s.bits() != before && fallen == NONE) fallen = i;
    }
    int sum = 0;
    for (int t : s.turns()) sum += t;
    return new int[] {all.length(), cannot, fallen, s.bits(), s.man, sum}[what];
  }

  int show() {
    if (fault() != NONE || judge(1) != NONE) return NO;
    String all = ticksOfShow();
    for (char c : all.toCharArray()) now.perform(c);
    pad = "";
    return all.length();
  }

  // ---- 2

  /** One who goes by a rule; his history holds the turns behind each tick, from the beginning on. */
  static final class Goer {
    final Scene s;
    final int rule;
    Integer goal = null, last = null;
    int wound = 0;
    final List<List<Integer>> history = new ArrayList<>();

    Goer(Scene from, int rule) {
      this.s = from.copy();
      this.rule = rule;
      history.add(s.turns());
    }

    int sees(int i) {
      Plate p = s.plates.get(i);
      if (p.place == s.man) return p.turn;
      int t = history.size() - 1 - s.lag;
      return history.get(t < 0 ? 0 : t).get(i);
    }

    /** How much he likes not to take a plate: the least of these is taken. */
    private int score(int i, int byRule) {
      Plate p = s.plates.get(i);
      int far = Math.abs(p.place - s.man);
      switch (byRule) {
        case 0: return sees(i);
        case 1: return sees(i) <= 5 ? far : 1000 + sees(i);
        case 2: return last == null ? i : i > last ? i - last : i - last + s.plates.size();
        default: return sees(i) / p.falls - far;
      }
    }

    char would() {
      if (goal != null && s.plates.get(goal).turn == 0) goal = null;
      if (goal == null) {
        wound = 0;
        for (int i = s.plates.size() - 1; i >= 0; i--) {
          if (s.plates.get(i).turn > 0 && (goal == null || score(i, rule) <= score(goal, rule))) goal = i;
        }
        if (goal == null) return '.';
        last = goal;
      }
      int place = s.plates.get(goal).place;
      return place == s.man ? 'w' : place < s.man ? '<' : '>';
    }

    void does(char c) {
      boolean atGoal = goal != null && s.plates.get(goal).place == s.man;
      boolean full = s.perform(c);
      if (c == 'w' && atGoal) {
        wound++;
        if (full || wound == s.patience) {
          goal = null;
          wound = 0;
        }
      }
      history.add(s.turns());
    }

    /** All that has to come again. */
    String all() {
      StringBuilder b = new StringBuilder();
      b.append(s.man).append('/').append(goal).append('/').append(wound).append('/').append(last);
      for (int back = 0; back <= s.lag; back++) {
        b.append('/').append(history.get(Math.max(0, history.size() - 1 - back)));
      }
      return b.toString();
    }
  }

  private static boolean noRule(int rule) {
    return rule < 0 || rule > 3;
  }

  private static int lastsOf(Scene from, int rule) {
    Goer g = new Goer(from, rule);
    for (int t = 1; t <= 600; t++) {
      g.does(g.would());
      if (g.s.bits() != from.bits()) return t;
    }
    return NONE;
  }

  int lasts(int rule) {
    if (noRule(rule)) return OUTSIDE;
    return now.bits() == 0 ? STATE : lastsOf(now, rule);
  }

  int at(int rule, int ticks, int plate) {
    if (plate < -2 || plate >= now.plates.size()) return UNKNOWN;
    if (noRule(rule) || ticks < 0 || ticks > 600) return OUTSIDE;
    Goer g = new Goer(now, rule);
    for (int t = 0; t < ticks; t++) g.does(g.would());
    if (plate == -1) return g.s.man;
    if (plate == -2) return g.goal == null ? NONE : g.goal;
    return g.s.plates.get(plate).turn;
  }

  int round(int rule, int what) {
    if (noRule(rule) || what < 0 || what > 1) return OUTSIDE;
    if (now.bits() == 0) return STATE;
    if (lastsOf(now, rule) != NONE) return NONE;
    Goer g = new Goer(now, rule);
    List<String> states = new ArrayList<>();
    states.add(g.all());
    for (int t = 1; t <= 600; t++) {
      g.does(g.would());
      states.add(g.all());
    }
    for (int t = 0; t <= 600; t++) {
      for (int u = t + 1; u <= 600; u++) {
        if (states.get(t).equals(states.get(u))) return what == 0 ? t : u - t;
      }
    }
    return NONE;
  }

  private static void orders(List<Integer> begun, int n, List<List<Integer>> all) {
    if (begun.size() == n) {
      all.add(new ArrayList<>(begun));
      return;
    }
    for (int i = 0; i < n; i++) {
      if (!begun.contains(i)) {
        begun.add(i);
        orders(begun, n, all);
        begun.remove(begun.size() - 1);
      }
    }
  }

  private static List<List<Integer>> allOrders(int n) {
    List<List<Integer>> all = new ArrayList<>();
    orders(new ArrayList<>(), n, all);
    return all;
  }

  int sticks(int rule, int i) {
    if (noRule(rule)) return OUTSIDE;
    if (now.bits() == 0) return STATE;
    int n = now.plates.size();
    int[] places = new int[n];
    for (int k = 0; k < n; k++) places[k] = now.plates.get(k).place;
    Arrays.sort(places);
    int most = -1;
    List<Integer> best = null;
    for (List<Integer> order : allOrders(n)) {
      Scene s = now.copy();
      for (int k = 0; k < n; k++) s.plates.get(order.get(k)).place = places[k];
      int lasting = lastsOf(s, rule);
      if (lasting == NONE) lasting = 1000000;
      if (lasting > most) {
        most = lasting;
        best = order;
      }
    }
    if (i == -1) return most == 1000000 ? NONE : most;
    return i >= 0 && i < n ? best.get(i) : NONE;
  }

  // ---- 3

  /** The plates that have not fallen alone; null if they are not 1 to 3. */
  private Scene upright() {
    Scene s = now.copy();
    s.plates.removeIf(p -> p.turn == 0);
    return s.plates.isEmpty() || s.plates.size() > 3 ? null : s;
  }

  private static List<Integer> key(Scene s) {
    List<Integer> k = s.turns();
    k.add(s.man);
    return k;
  }

  private static Scene with(Scene s, List<Integer> key) {
    Scene c = s.copy();
    for (int i = 0; i < c.plates.size(); i++) c.plates.get(i).turn = key.get(i);
    c.man = key.get(key.size() - 1);
    return c;
  }

  /** What stands behind each thing, null where one falls or it can not be done. */
  private static List<List<Integer>> nexts(Scene s, List<Integer> key) {
    List<List<Integer>> all = new ArrayList<>();
    for (char c : THINGS.toCharArray()) {
      Scene t = with(s, key);
      boolean can = t.possible(c);
      if (can) t.perform(c);
      all.add(can && Integer.bitCount(t.bits()) == t.plates.size() ? key(t) : null);
    }
    return all;
  }

  private static Map<List<Integer>, List<List<Integer>>> reached(Scene s) {
    Map<List<Integer>, List<List<Integer>>> all = new HashMap<>();
    List<List<Integer>> open = new ArrayList<>();
    open.add(key(s));
    while (!open.isEmpty()) {
      List<Integer> k = open.remove(open.size() - 1);
      if (all.containsKey(k)) continue;
      List<List<Integer>> next = nexts(s, k);
      all.put(k, next);
      for (List<Integer> t : next) if (t != null) open.add(t);
    }
    return all;
  }

  /**
   * How many ticks longest, for each state: those without a next one last 0; then, again and again, those
   * of which all next ones are known. What is never known is kept for ever.
   */
  private static Map<List<Integer>, Integer> longests(Scene s) {
    Map<List<Integer>, List<List<Integer>>> graph = reached(s);
    Map<List<Integer>, Integer> known = new HashMap<>();
    boolean more = true;
    while (more) {
      more = false;
      for (Map.Entry<List<Integer>, List<List<Integer>>> e : graph.entrySet()) {
        if (known.containsKey(e.getKey())) continue;
        int most = 0;
        boolean sure = true;
        for (List<Integer> t : e.getValue()) {
          if (t == null) continue;
          Integer v = known.get(t);
          if (v == null) sure = false;
          else most = Math.max(most, v + 1);
        }
        if (sure) {
          known.put(e.getKey(), most);
          more = true;
        }
      }
    }
    return known;
  }

  int kept() {
    Scene s = upright();
    if (s == null) return STATE;
    return longests(s).containsKey(key(s)) ? 0 : 1;
  }

  int longest() {
    Scene s = upright();
    if (s == null) return STATE;
    Integer v = longests(s).get(key(s));
    return v == null ? NONE : v;
  }

  int step() {
    Scene s = upright();
    if (s == null) return STATE;
    Map<List<Integer>, Integer> known = longests(s);
    List<List<Integer>> next = nexts(s, key(s));
    Integer mine = known.get(key(s));
    for (int c = 0; c < 4; c++) {
      if (next.get(c) == null) continue;
      Integer v = known.get(next.get(c));
      if (mine == null ? v == null : v == mine - 1) return c;
    }
    return NONE;
  }

  int bow(int n) {
    if (n < 1 || n > 9) return OUTSIDE;
    Scene s = upright();
    if (s == null) return STATE;
    Set<List<Integer>> seen = new HashSet<>();
    Set<List<Integer>> layer = new HashSet<>();
    layer.add(key(s));
    for (int ticks = 0; !layer.isEmpty(); ticks++) {
      Set<List<Integer>> behind = new HashSet<>();
      for (List<Integer> k : layer) {
        Scene t = with(s, k);
        for (int i = 0; i < n; i++) t.perform('.');
        if (Integer.bitCount(t.bits()) == t.plates.size()) return ticks;
        for (List<Integer> u : nexts(s, k)) if (u != null && seen.add(u)) behind.add(u);
      }
      layer = behind;
    }
    return NONE;
  }

  private static int gaspsBehind(Scene s, List<Integer> k, int n, Map<String, Integer> known) {
    if (n == 0) return 0;
    String name = n + " " + k;
    Integer before = known.get(name);
    if (before != null) return before;
    int most = NONE;
    for (List<Integer> t : nexts(s, k)) most = Math.max(most, gaspsThrough(s, t, n, known));
    known.put(name, most);
    return most;
  }

  /** The most gasps in n ticks of which the first one leads to t. */
  private static int gaspsThrough(Scene s, List<Integer> t, int n, Map<String, Integer> known) {
    if (t == null) return NONE;
    int rest = gaspsBehind(s, t, n - 1, known);
    if (rest == NONE) return NONE;
    for (int i = 0; i < s.plates.size(); i++) if (t.get(i) <= 3) rest++;
    return rest;
  }

  int gasps(int n, int what) {
    if (n < 1 || n > 30 || what < 0 || what > 1) return OUTSIDE;
    Scene s = upright();
    if (s == null) return STATE;
    Map<String, Integer> known = new HashMap<>();
    int most = gaspsBehind(s, key(s), n, known);
    if (what == 0 || most == NONE) return most;
    List<List<Integer>> next = nexts(s, key(s));
    for (int c = 0; c < 4; c++) if (gaspsThrough(s, next.get(c), n, known) == most) return c;
    return NONE;
  }

  int load(int part) {
    if (part < 0 || part > 1) return OUTSIDE;
    int up = 0, low = now.gives;
    for (Plate p : now.plates) if (p.turn > 0) up += p.falls;
    if (up == 0) return part;
    for (int d = 6; d >= 2; d--) {
      while (up % d == 0 && low % d == 0) {
        up /= d;
        low /= d;
      }
    }
    return part == 0 ? up : low;
  }

  // ---- 4

  /** Tick by tick: where he is, what he sets up, what runs down. */
  private int leastOf(List<Integer> order) {
    int man = now.man;
    int[] turn = new int[now.plates.size()];
    Set<Integer> up = new HashSet<>();
    for (int i : order) {
      Plate p = now.plates.get(i);
      int ticks = Math.abs(p.place - man) + now.sets;
      man = p.place;
      for (int t = 0; t < ticks; t++) {
        for (int j : up) turn[j] -= now.plates.get(j).falls;
      }
      up.add(i);
      turn[i] = p.full;
    }
    int least = 100;
    for (int t : turn) least = Math.min(least, t);
    return Math.max(least, 0);
  }

  int setUp(int order) {
    if (order < 0) return OUTSIDE;
    if (now.plates.isEmpty()) return STATE;
    String digits = Integer.toString(order);
    while (digits.length() < now.plates.size()) digits = "0" + digits;
    if (digits.length() > now.plates.size()) return OUTSIDE;
    List<Integer> list = new ArrayList<>();
    for (char c : digits.toCharArray()) {
      if (c - '0' >= now.plates.size() || list.contains(c - '0')) return OUTSIDE;
      list.add(c - '0');
    }
    return leastOf(list);
  }

  int bestOrder() {
    if (now.plates.isEmpty()) return STATE;
    int most = 0, best = NONE;
    for (List<Integer> order : allOrders(now.plates.size())) {
      int least = leastOf(order);
      if (least > most) {
        most = least;
        best = 0;
        for (int i : order) best = best * 10 + i;
      }
    }
    return best;
  }

  int film(int rule) {
    if (noRule(rule)) return OUTSIDE;
    if (fault() != NONE) return NO;
    Goer g = new Goer(now, rule);
    int like = 0;
    for (char c : ticksOfShow().toCharArray()) {
      if (!g.s.possible(c)) break;
      if (g.would() == c) like++;
      g.does(c);
    }
    return like;
  }

  int whose() {
    if (fault() != NONE) return NO;
    int best = 0;
    for (int r = 1; r < 4; r++) if (film(r) > film(best)) best = r;
    return best;
  }

  int image(int n) {
    if (n < 0 || n > 1) return OUTSIDE;
    images[n] = now.copy();
    return 1;
  }

  int restore(int n) {
    if (n < 0 || n > 1) return OUTSIDE;
    if (images[n] == null) return STATE;
    now = images[n].copy();
    return 1;
  }

  int told(int what) {
    switch (what) {
      case 0: return now.plates.size();
      case 1: return pad.length();
      case 2: return now.bits();
      case 3: return now.man;
      case 4: return now.gives;
      case 5: return now.patience;
      case 6: return now.lag;
      case 7: return now.sets;
      default: return OUTSIDE;
    }
  }
}
