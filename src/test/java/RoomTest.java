import java.lang.management.ManagementFactory;

/** All calls of a run live in one room: only a new land, a new program, a new chip take some of it. */
public final class RoomTest {
  private static final com.sun.management.ThreadMXBean MEASURE =
      (com.sun.management.ThreadMXBean) ManagementFactory.getThreadMXBean();

  private RoomTest() {
  }

  public static void main(String[] args) {
    Check check = new Check("RoomTest");
    dearest(landOfLoops());
    long start = bytes();
    TwoDigits x = landOfLoops();
    long made = bytes() - start;
    check.holds("a land with twelve programs takes " + made + " bytes", made < 60_000);
    start = bytes();
    dearest(x);
    long taken = bytes() - start;
    check.holds("the dearest calls take " + taken + " bytes", taken < 2_000);
    check.finish();
  }

  private static long bytes() {
    return MEASURE.getCurrentThreadAllocatedBytes();
  }

  private static TwoDigits landOfLoops() {
    TwoDigits x = new TwoDigits();
    for (int i = 0; i < 12; i++) {
      Land.program(x, "now a;out a;go 2");
      x.input(i, i - 1);
      x.does(i, 0, 0, 0);
    }
    for (int i = 0; i < 8; i++) {
      x.testYear(2000);
      x.fault(i, 0, 4, -1);
      x.stop(i, 10 * i, 5, i);
      x.thing(i % 7, i);
    }
    x.chip(30, 1);
    x.sheet(0, 2, 12);
    x.sheet(1, 2, 12);
    return x;
  }

  private static void dearest(TwoDigits x) {
    x.first(0xff, 9, 2000, 1);
    x.breaks(0, 0, 4, -1, 0);
    x.cover(0);
    x.night(2000);
    x.beside(2000);
    x.posts(3, 4);
    x.fit(0, 2);
    x.ask(0, 2000);
    x.field(0, 0, 2);
    x.reach(0);
    x.cross(0, 1, 0);
    x.act(5, 2, 1);
    x.copy(0, 0, 1, 0, 12);
    x.shelf(0, 0, 2, 0, 12);
    x.mend(0, 0, 0, 0, 4, 1);
    x.test(0, 0, 0, 2000);
    x.sign(0, 0, true, 0, 0);
    x.knew(0, 0, 0);
    x.sheet(2, 1, 40);
    x.feed('?', 1);
    x.program();
  }
}
