import java.lang.management.ManagementFactory;

/** All rows are made by the constructor: the calls behind it make nothing, so that a long run keeps to its room. */
public final class RoomTest {
  public static void main(String[] args) {
    Check check = new Check();
    com.sun.management.ThreadMXBean threads =
        (com.sun.management.ThreadMXBean) ManagementFactory.getThreadMXBean();
    calls(new PurseCard(1));
    PurseCard x = new PurseCard(2);
    long before = threads.getCurrentThreadAllocatedBytes();
    long empty = threads.getCurrentThreadAllocatedBytes() - before;
    before = threads.getCurrentThreadAllocatedBytes();
    calls(x);
    long made = threads.getCurrentThreadAllocatedBytes() - before - empty;
    System.out.println(made + " bytes made by 512 calls");
    check.due("little is made", made < 4096, true);
    before = threads.getCurrentThreadAllocatedBytes();
    for (int i = 0; i < 100; i++) {
      new PurseCard(i).put(1);
    }
    made = (threads.getCurrentThreadAllocatedBytes() - before) / 100;
    System.out.println(made + " bytes made by the constructor");
    check.due("an object is small", made < 8192, true);
    check.end();
  }

  private static void calls(PurseCard x) {
    x.key(1, 2);
    for (int i = 0; i < 12; i++) {
      x.put(i);
      x.keep(1 + i % 4);
    }
    for (int i = 0; i < 120; i++) {
      x.pay(i, i, i, i % 2 - 1, true);
      x.find(0x9F26);
      x.genuine(i, i, false);
      x.seal(i % 16);
    }
  }
}
