import com.sun.management.ThreadMXBean;
import java.lang.management.ManagementFactory;

/** All calls of a run live in one room: what a run needs is made by the constructor, and no call makes anything. */
public final class RoomTest {
  private static final ThreadMXBean THREADS = (ThreadMXBean) ManagementFactory.getThreadMXBean();
  /** The answers come together here, so that no call can be left out. */
  private static long sum;

  public static void main(String[] args) {
    InTheOldOne warm = new InTheOldOne();
    laidOut(warm);
    everyCall(warm);
    long before = made();
    InTheOldOne x = new InTheOldOne();
    long behind = made();
    Due.due("a new object has more than 64 KiB (" + (behind - before) + " bytes)", behind - before > 65536 ? 1 : 0, 0);
    laidOut(x);
    before = made();
    for (int i = 0; i < 10; i++) everyCall(x);
    behind = made();
    Due.due("bytes that calls made (" + sum + ")", behind - before, 0);
    Due.end();
  }

  private static long made() {
    return THREADS.getThreadAllocatedBytes(Thread.currentThread().getId());
  }

  private static void laidOut(InTheOldOne x) {
    for (int i = 0; i < 6; i++) {
      x.disk(i, 5);
      for (int f = 0; f < 8; f += i + 1) x.write(i, f, 100 * i + f);
    }
    x.sheet(0, 0, 40);
    x.sheet(1, 0, 40);
    for (int i = 0; i < 40; i++) x.cell(0, i, i % 6);
  }

  private static void everyCall(InTheOldOne x) {
    for (int i = 0; i < 3; i++) sum += x.set(i, 0, 5) + x.worst(i) + x.newest(1, i) + x.plan(0, i);
    for (int i = 0; i < 9; i++) sum += x.told(1, i) + x.all(i) + x.count(i) + x.fewest(i) + x.best(i, 0);
    for (int i = 0; i < 5; i++) sum += x.film(2, i) + x.tells(2, i, i + 1, i) + x.copies(i, i + 1) + x.again(i, i + 1) + x.goes(i);
    sum += x.disk(0, 0) + x.file(0, 0, 0) + x.feed(40) + x.text() + x.force(0) + x.write(0, 0, 1) + x.lose(0, 0) + x.on(0);
    sum += x.letGo() + x.lot(7) + x.chance(7, 20, 0) + x.image() + x.back() + x.sheet(3, 2, 40) + x.cell(3, 0, 1);
    sum += x.copy(0, 0, 1, 0, 40) + x.disks(0, 0, 0, 6) + x.taken(1, 0);
  }

  private RoomTest() { }
}
