import com.sun.management.ThreadMXBean;
import java.lang.management.ManagementFactory;

/** All calls of a run live in one room: a call that does not throw makes no object. */
public final class RoomTest {
  private static final int ROUNDS = 200;
  private static final int TRIES = 5;

  private static long sum;

  private static void ask(PrizeHouse p) {
    sum += p.digest();
    sum += (long) p.meanMark();
    sum += p.wouldMiss(60);
    sum += p.spoiled(0);
  }

  /** A whole year, with each call that changes something. */
  private static void goThrough(PrizeHouse p) {
    p.house();
    p.judge(150, 3, 1);
    p.book(0, 1, 1, 120, 33, 4);
    p.conflict(0, 9);
    p.rules(7, 100, 800, 20);
    p.print(0, 50);
    for (int b = 0; b < 6; b++) {
      p.enter(b);
    }
    p.callIn(1, 6);
    p.read();
    p.pass(60);
    p.longList(8);
    p.points(0, 0, 7);
    p.shortList(3);
    p.vote(0, 123);
    p.vote(1, 321);
    ask(p);
    p.end();
    p.strip();
    p.next();
  }

  private static long bytesMade(ThreadMXBean threads) {
    long thread = Thread.currentThread().getId();
    PrizeHouse[] prizes = new PrizeHouse[ROUNDS];
    for (int k = 0; k < ROUNDS; k++) {
      prizes[k] = Scenes.told();
    }
    long before = threads.getThreadAllocatedBytes(thread);
    for (PrizeHouse p : prizes) {
      goThrough(p);
    }
    return threads.getThreadAllocatedBytes(thread) - before;
  }

  public static void main(String[] args) {
    ThreadMXBean threads = (ThreadMXBean) ManagementFactory.getThreadMXBean();
    // The machine itself may make something in one try, but what a call makes is there in each.
    long least = Long.MAX_VALUE;
    for (int k = 0; k < TRIES; k++) {
      least = Math.min(least, bytesMade(threads));
    }
    System.out.println("RoomTest: " + least + " bytes in " + ROUNDS + " years, sum " + sum);
    // One small object a year would be 16 bytes.
    System.exit(least < 16L * ROUNDS ? 0 : 1);
  }
}
