/** Counts and prints the answers that are not as due. */
final class Due {
  private static int wrong = 0;
  private static int asked = 0;

  private Due() {
  }

  static void due(String call, int got, int want) {
    asked++;
    if (got != want) {
      wrong++;
      System.out.println(call + " answered " + got + ", due is " + want);
    }
  }

  static void dueTrue(String what, boolean holds) {
    due(what, holds ? 1 : 0, 1);
  }

  /** A call that does not end is a failure, too: the test is cut off after so many minutes. */
  static void endWithin(int minutes) {
    Thread watch = new Thread(() -> {
      try {
        Thread.sleep(minutes * 60_000L);
      } catch (InterruptedException e) {
        return;
      }
      System.out.println("a call does not end");
      Runtime.getRuntime().halt(1);
    });
    watch.setDaemon(true);
    watch.start();
  }

  static void end(String test) {
    System.out.println(test + ": " + asked + " looked at, " + wrong + " not as due");
    if (wrong != 0) System.exit(1);
  }
}
