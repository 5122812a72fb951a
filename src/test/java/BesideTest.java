import java.util.NoSuchElementException;

/** Promises 33 to 35: two captures laid beside each other. */
public final class BesideTest {
  private static final Check CHECK = new Check("BesideTest");

  private BesideTest() {
  }

  public static void main(String[] args) {
    alike();
    differs();
    best();
    CHECK.finish();
  }

  /** The wire 1 is drawn; the captures take parts of it. */
  private static void beside(Probehall x, String levels, int from, int many, int other,
      int otherMany) {
    Look.draw(x, 1, levels);
    x.capture(0, from, 1, many);
    x.capture(1, other, 1, otherMany);
  }

  private static Probehall laid(String levels, int from, int many, int other, int otherMany) {
    Probehall x = new Probehall();
    beside(x, levels, from, many, other, otherMany);
    return x;
  }

  private static void alike() {
    Probehall x = laid("0010110111", 0, 5, 4, 6);
    CHECK.same("alike(0) of 00101 and 110111", x.alike(0), 1);
    CHECK.same("alike(1) of 00101 and 10111", x.alike(1), 3);
    CHECK.same("alike(2) of 00101 and 0111", x.alike(2), 2);
    CHECK.same("alike(5) of 0 and 1", x.alike(5), 0);
    CHECK.same("alike(6) of nothing", x.alike(6), 0);
    CHECK.same("alike(-1) of 0101 and 1101", x.alike(-1), 3);
    CHECK.same("alike(-4) of 1 and 1", x.alike(-4), 1);
    CHECK.same("alike(-5) of nothing", x.alike(-5), 0);
    CHECK.same("alike(399) of nothing", x.alike(399) + x.alike(-399), 0);
    x.flip(3, 4);
    x.capture(1, 4, 1, 6);
    CHECK.same("another wire makes all unlike", x.alike(0), 0);
    Probehall wide = laid("01", 0, 400, 0, 400);
    CHECK.same("alike(0) of 400", wide.alike(0), 400);
    CHECK.same("alike(1) of 400", wide.alike(1), 398);
    CHECK.same("alike(399) of 400", wide.alike(399) + wide.alike(-399), 0);
    CHECK.same("alike(0) of no samples", new Probehall().alike(0), 0);
    CHECK.badNumber("alike(400)", y -> y.alike(400));
    CHECK.badNumber("alike(-400)", y -> y.alike(-400));
    CHECK.badNumber("alike of the least int", y -> y.alike(Integer.MIN_VALUE));
  }

  private static void differs() {
    Probehall x = laid("0010110111", 0, 5, 4, 6);
    CHECK.same("differs(0) of 00101 and 110111", x.differs(0), 0);
    CHECK.same("differs(-1) of 0101 and 1101", x.differs(-1), 1);
    CHECK.same("differs(2) of 0010 and 0111", x.differs(2), 1);
    CHECK.same("differs(5) of 0 and 1", x.differs(5), 0);
    unlikeless("differs(6) of nothing", 6);
    unlikeless("differs(-4) of 1 and 1", -4);
    unlikeless("differs(-5) of nothing", -5);
    CHECK.refused("differs of no samples", NoSuchElementException.class, Look::emptyScene,
        y -> y.differs(0));
    CHECK.badNumber("differs(400)", y -> y.differs(400));
    CHECK.badNumber("differs(-400)", y -> y.differs(-400));
    CHECK.refused("differs(400) of no samples", IllegalArgumentException.class, Look::emptyScene,
        y -> y.differs(400));
  }

  private static void unlikeless(String what, int offset) {
    CHECK.refused(what, NoSuchElementException.class, y -> beside(y, "0010110111", 0, 5, 4, 6),
        y -> y.differs(offset));
  }

  private static void best() {
    String pulse = "0".repeat(50) + "11011" + "0".repeat(100);
    CHECK.same("a pulse 7 later", laid(pulse, 20, 80, 13, 80).best(20), 7);
    CHECK.same("a pulse 7 earlier", laid(pulse, 20, 80, 27, 80).best(20), -7);
    CHECK.same("a pulse 7 later, by a bound of 7", laid(pulse, 20, 80, 13, 80).best(7), 7);
    CHECK.same("a pulse 7 later, by a bound of 0", laid(pulse, 20, 80, 13, 80).best(0), 0);
    CHECK.same("all alike", laid("0", 0, 50, 0, 50).best(99), 0);
    CHECK.same("all alike at each, the least size", laid("0", 0, 10, 0, 200).best(99), 0);
    CHECK.same("7 above, and fewer ahead of it and behind", growing().best(9), 7);
    CHECK.same("below 0 first", laid("01".repeat(30), 10, 20, 11, 20).best(3), -1);
    CHECK.same("none alike", laid("01111", 0, 1, 1, 1).best(9), 0);
    CHECK.same("one above", laid("0011", 2, 1, 1, 2).best(1), 1);
    String late = "0".repeat(299) + "10";
    CHECK.same("99 above", laid(late, 299, 1, 200, 150).best(99), 99);
    CHECK.same("99 above, by a bound of 98", laid(late, 299, 1, 200, 150).best(98), 0);
    CHECK.same("99 below", laid(late, 200, 100, 299, 1).best(99), -99);
    CHECK.same("99 below, by a bound of 98", laid(late, 200, 100, 299, 1).best(98), 0);
    refused();
  }

  /** The highs of both captures lie more and more upon each other up to the offset 7. */
  private static Probehall growing() {
    return laid("0".repeat(60) + "1".repeat(20) + "0".repeat(60), 27, 80, 20, 80);
  }

  private static void refused() {
    CHECK.badNumber("best(-1)", y -> y.best(-1));
    CHECK.badNumber("best(100)", y -> y.best(100));
    CHECK.refused("best(100) of no samples", IllegalArgumentException.class, Look::emptyScene,
        y -> y.best(100));
    CHECK.refused("best of no samples", UnsupportedOperationException.class, Look::emptyScene,
        y -> y.best(3));
    CHECK.refused("best of no samples in 0", UnsupportedOperationException.class,
        y -> y.capture(1, 0, 1, 5), y -> y.best(3));
    CHECK.refused("best of no samples in 1", UnsupportedOperationException.class,
        y -> y.capture(0, 0, 1, 5), y -> y.best(3));
  }
}
