import java.util.Map;
import java.util.Random;
import java.util.TreeMap;

/** Runs of calls, drawn from seeds, on the class and on the slow model: every answer must be the same. */
public final class ModelTest {
  private static int wrong = 0;
  private static final Map<String, Map<Integer, Integer>> answers = new TreeMap<>();

  private SpunPlates x;
  private Model m;
  private final Random r;
  private final StringBuilder told = new StringBuilder();

  private ModelTest(long seed) {
    r = new Random(seed);
  }

  private void same(String name, String args, int got, int want) {
    told.append(name).append('(').append(args).append(") = ").append(got).append('\n');
    answers.computeIfAbsent(name, k -> new TreeMap<>()).merge(want, 1, Integer::sum);
    if (got != want && ++wrong <= 5) {
      System.out.println("behind these calls the last answer should be " + want + ":\n" + told);
    }
  }

  /** Mostly from least to most, at times somewhat outside. */
  private int num(int least, int most) {
    return r.nextInt(40) == 0 ? least - 2 + r.nextInt(most - least + 5) : least + r.nextInt(most - least + 1);
  }

  private void begin() {
    x = new SpunPlates();
    m = new Model();
    told.setLength(0);
  }

  private void addPlate(int falls) {
    int a = num(0, 7), b = num(2, 15);
    same("plate", a + ", " + b + ", " + falls, x.plate(a, b, falls), m.plate(a, b, falls));
  }

  private void change() {
    int a = num(0, 5), b;
    switch (r.nextInt(8)) {
      case 0:
        addPlate(num(1, 3));
        break;
      case 1:
        b = num(0, 15);
        same("turn", a + ", " + b, x.turn(a, b), m.turn(a, b));
        break;
      case 2:
        a = num(0, 4);
        b = num(0, 9);
        same("set", a + ", " + b, x.set(a, b), m.set(a, b));
        break;
      case 3: case 4:
        a = num(0, 3);
        same("tick", "" + a, x.tick(a), m.tick(a));
        break;
      case 5:
        a = num(0, 1);
        same("image", "" + a, x.image(a), m.image(a));
        break;
      case 6:
        a = num(0, 1);
        same("restore", "" + a, x.restore(a), m.restore(a));
        break;
      default:
        same("show", "", x.show(), m.show());
    }
  }

  private void say(int sign) {
    same("say", "" + sign, x.say(sign), m.say(sign));
  }

  /** A show of any signs, or one that is at times what a rule does. */
  private void write() {
    if (r.nextInt(3) > 0) same("wipe", "", x.wipe(), m.wipe());
    if (r.nextInt(2) == 0) {
      int n = r.nextInt(12);
      for (int i = 0; i < n; i++) {
        say(r.nextInt(60) == 0 ? 30 + r.nextInt(100) : ".<>w".charAt(r.nextInt(4)));
        if (r.nextInt(3) == 0) say(r.nextInt(30) == 0 ? '0' + r.nextInt(10) : '2' + r.nextInt(8));
      }
      return;
    }
    Model.Goer g = new Model.Goer(m.now, r.nextInt(4));
    int n = r.nextInt(42);
    for (int i = 0; i < n; i++) {
      char c = g.would();
      if (r.nextInt(12) == 0) c = ".<>w".charAt(r.nextInt(4));
      if (!g.s.possible(c)) break;
      g.does(c);
      say(c);
    }
  }

  private void askPlain() {
    int a = num(0, 5), b = num(0, 3);
    same("about", a + ", " + b, x.about(a, b), m.about(a, b));
    a = num(0, 7);
    same("told", "" + a, x.told(a), m.told(a));
    same("fault", "", x.fault(), m.fault());
    a = num(0, 5);
    same("judge", "" + a, x.judge(a), m.judge(a));
    a = num(0, 3);
    same("film", "" + a, x.film(a), m.film(a));
    same("whose", "", x.whose(), m.whose());
    a = num(0, 1);
    same("load", "" + a, x.load(a), m.load(a));
  }

  private void askRules() {
    int a = num(0, 3), b = r.nextInt(3) == 0 ? num(0, 600) : num(0, 40), c = num(-2, 5);
    same("lasts", "" + a, x.lasts(a), m.lasts(a));
    same("at", a + ", " + b + ", " + c, x.at(a, b, c), m.at(a, b, c));
    b = num(0, 1);
    same("round", a + ", " + b, x.round(a, b), m.round(a, b));
  }

  private void askExactly() {
    same("kept", "", x.kept(), m.kept());
    same("longest", "", x.longest(), m.longest());
    same("step", "", x.step(), m.step());
    int a = num(1, 9);
    same("bow", "" + a, x.bow(a), m.bow(a));
    int b = r.nextInt(4) == 0 ? num(1, 30) : num(1, 12), c = num(0, 1);
    same("gasps", b + ", " + c, x.gasps(b, c), m.gasps(b, c));
  }

  private void askOrders() {
    int a = num(0, 3), b = num(-2, 6);
    same("sticks", a + ", " + b, x.sticks(a, b), m.sticks(a, b));
    a = r.nextInt(2) == 0 ? num(0, 999999) : orderOf(m.told(0));
    same("setUp", "" + a, x.setUp(a), m.setUp(a));
    same("bestOrder", "", x.bestOrder(), m.bestOrder());
  }

  private int orderOf(int n) {
    int number = 0;
    int had = 0;
    for (int i = 0; i < n; i++) {
      int p = r.nextInt(n);
      while ((had >> p & 1) == 1) p = (p + 1) % n;
      had |= 1 << p;
      number = number * 10 + p;
    }
    return number;
  }

  /** Few plates that run down slowly and much given: these are kept, and come again. */
  private void easyRun() {
    begin();
    int g = num(3, 6), l = num(0, 3), n = 1 + r.nextInt(3);
    same("set", "1, " + g, x.set(1, g), m.set(1, g));
    same("set", "3, " + l, x.set(3, l), m.set(3, l));
    for (int i = 0; i < n; i++) {
      int a = r.nextInt(4), b = 8 + r.nextInt(8);
      same("plate", a + ", " + b + ", 1", x.plate(a, b, 1), m.plate(a, b, 1));
    }
    for (int i = 0; i < 6; i++) {
      int p = r.nextInt(3), v = 1 + r.nextInt(14);
      if (r.nextInt(3) == 0) same("turn", p + ", " + v, x.turn(p, v), m.turn(p, v));
      askRules();
      int a = num(0, 3), b = num(-2, 3);
      same("sticks", a + ", " + b, x.sticks(a, b), m.sticks(a, b));
      write();
      askPlain();
    }
    askExactly();
  }

  private void anyRun() {
    begin();
    int plates = r.nextInt(7);
    for (int i = 0; i < plates; i++) addPlate(r.nextInt(2) == 0 ? 1 : num(1, 3));
    for (int i = 0; i < 12; i++) {
      int changes = r.nextInt(5);
      for (int k = 0; k < changes; k++) change();
      if (r.nextInt(2) == 0) write();
      askPlain();
      askRules();
    }
    askOrders();
    if (r.nextInt(3) == 0) askExactly();
  }

  public static void main(String[] args) {
    int runs = args.length > 0 ? Integer.parseInt(args[0]) : 400;
    long first = args.length > 1 ? Long.parseLong(args[1]) : 1;
    for (int i = 0; i < runs && wrong == 0; i++) {
      new ModelTest(first + i).easyRun();
      new ModelTest(first + i).anyRun();
    }
    if (args.length > 2) System.out.println(answers);
    System.out.println(wrong == 0 ? "class and model answer alike" : wrong + " answers differ");
    if (wrong != 0) System.exit(1);
  }
}
