import java.lang.management.ManagementFactory;

/** All calls of a run live in one room: what they make is counted, in bytes, for the dearest runs. */
public final class RoomTest {
  /** 7.3 million elements of four bytes are some 29 million bytes; the class keeps far below. */
  private static final long ROOM = 2_000_000;

  private static long made() {
    return ((com.sun.management.ThreadMXBean) ManagementFactory.getThreadMXBean())
        .getThreadAllocatedBytes(Thread.currentThread().getId());
  }

  private static int ask(SpunPlates x, int which) {
    switch (which) {
      case 0: return x.kept();
      case 1: return x.longest();
      case 2: return x.step();
      case 3: return x.bow(9);
      case 4: return x.gasps(30, 0);
      case 5: return x.sticks(3, -1);
      case 6: return x.round(1, 0);
      case 7: return x.at(2, 600, 0);
      case 8: return x.lasts(0);
      case 9: return x.bestOrder();
      case 10: return x.whose();
      case 11: return x.judge(5);
      case 12: return x.image(0);
      case 13: return x.restore(0);
      default: return x.setUp(12);
    }
  }

  private static long bytesOf(int which, int plates) {
    long before = made();
    SpunPlates x = new SpunPlates();
    for (int p = 0; p < plates; p++) x.plate(p, 15, 1);
    x.set(1, 6);
    x.set(3, 3);
    for (int i = 0; i < 20; i++) {
      x.say('.');
      x.say('9');
    }
    for (int i = 0; i < 460; i++) ask(x, which);
    return made() - before;
  }

  public static void main(String[] args) {
    for (int which = 0; which < 15; which++) {
      for (int plates = 3; plates <= 6; plates += 3) {
        long bytes = bytesOf(which, plates);
        Due.dueTrue("call " + which + " with " + plates + " plates made " + bytes + " bytes", bytes < ROOM);
      }
    }
    Due.end("RoomTest");
  }
}
