/** Counts and prints the answers that are not as due. */
final class Due {
  private static int wrong = 0;
  private static int asked = 0;

  private Due() {
  }

  static void due(String call, int got, int want) {
    asked++;
    if (got != want) {
      wrong++;
      System.out.println(call + " answered " + got + ", due is " + want);
    }
  }

  static void dueTrue(String what, boolean holds) {
    due(what, holds ? 1 : 0, 1);
  }

  static void end(String test) {
    System.out.println(test + ": " + asked + " looked at, " + wrong + " not as due");
    if (wrong != 0) System.exit(1);
  }
}
