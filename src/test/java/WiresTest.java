/** Promises 1 to 10: a new bench, wires and senders. */
public final class WiresTest {
  private static final Check CHECK = new Check("WiresTest");

  private WiresTest() {
  }

  public static void main(String[] args) {
    newBench();
    idle();
    flip();
    level();
    glitch();
    drift();
    serial();
    serialAtEdges();
    answers();
    twoWires();
    twoWiresAtEdges();
    fourWires();
    fourWiresAtEdges();
    CHECK.finish();
  }

  private static void newBench() {
    Probehall x = new Probehall();
    for (int wire = 0; wire < 4; wire++) {
      CHECK.same("new level " + wire, x.level(wire, 0), false);
      CHECK.same("new last level " + wire, x.level(wire, 9999), false);
    }
    CHECK.same("new flips", x.flips(), 0);
    CHECK.same("new samples 0", x.samples(0), 0);
    CHECK.same("new samples 1", x.samples(1), 0);
    CHECK.same("new notes", x.notes(), 0);
    CHECK.same("new steps", x.reset(), 0);
    CHECK.same("new drift", x.drift(0), 0);
    CHECK.same("new answers", x.answers(true, true), true);
    CHECK.same("new register", x.register(0, 0) + x.register(127, 15), 0);
    CHECK.same("new checksum", x.checksum(), 7L);
    CHECK.same("new bench is sound", x.isSound(), true);
    Probehall other = new Probehall();
    other.flip(0, 1);
    CHECK.same("benches share nothing", x.flips(), 0);
  }

  private static void idle() {
    Probehall x = new Probehall();
    CHECK.same("idle(3, true)", x.idle(3, true), false);
    CHECK.same("idle(3, true) again", x.idle(3, true), true);
    CHECK.same("level of an idle high wire", x.level(3, 5000), true);
    CHECK.same("another wire stays low", x.level(2, 5000), false);
    x.flip(3, 10);
    CHECK.same("levels around a flip", Look.levels(x, 3, 8, 4), "1100");
    CHECK.same("idle(3, false)", x.idle(3, false), true);
    CHECK.same("levels around a flip, idle low", Look.levels(x, 3, 8, 4), "0011");
    CHECK.noWire("idle(-1, true)", y -> y.idle(-1, true));
    CHECK.noWire("idle(4, true)", y -> y.idle(4, true));
  }

  private static void flip() {
    Probehall x = new Probehall();
    CHECK.same("flip(0, 9999)", x.flip(0, 9999), 1);
    CHECK.same("flip(0, 0)", x.flip(0, 0), 2);
    CHECK.same("flip(0, 5)", x.flip(0, 5), 3);
    CHECK.same("flip(1, 5)", x.flip(1, 5), 1);
    CHECK.same("levels behind flips", Look.levels(x, 0, 0, 7), "1111100");
    CHECK.same("level at the last flip", x.level(0, 9998) + " " + x.level(0, 9999), "false true");
    CHECK.same("a flip again is none", x.flip(0, 5), 2);
    CHECK.same("levels behind none", Look.levels(x, 0, 0, 7), "1111111");
    CHECK.same("the other wire's flip stays", x.flips(), 3);
    CHECK.noWire("flip(-1, 5)", y -> y.flip(-1, 5));
    CHECK.noWire("flip(4, 5)", y -> y.flip(4, 5));
    CHECK.noWire("flip(4, -5)", y -> y.flip(4, -5));
    CHECK.badNumber("flip(0, -1)", y -> y.flip(0, -1));
    CHECK.badNumber("flip(0, 10000)", y -> y.flip(0, 10000));
    CHECK.badNumber("flip at the least int", y -> y.flip(0, Integer.MIN_VALUE));
    CHECK.badNumber("flip at the greatest int", y -> y.flip(0, Integer.MAX_VALUE));
    CHECK.refused("flip of a full wire", IllegalStateException.class, y -> fill(y, 0, 150),
        y -> y.flip(0, 9000));
    CHECK.refused("flip of a full wire at no tick", IllegalArgumentException.class,
        y -> fill(y, 0, 150), y -> y.flip(0, 10000));
    Probehall full = new Probehall();
    fill(full, 0, 150);
    CHECK.same("a full wire", full.flips(), 300);
    CHECK.same("flip of a full wire where one is", full.flip(0, 4), 299);
    CHECK.same("flip into the free place", full.flip(0, 9000), 300);
    CHECK.same("flip of another wire", full.flip(1, 9000), 1);
  }

  /** Glitches of 1 tick at each fourth tick from 4 on. */
  private static void fill(Probehall x, int wire, int glitches) {
    for (int i = 1; i <= glitches; i++) {
      x.glitch(wire, 4 * i, 1);
    }
  }

  private static void level() {
    Probehall x = new Probehall();
    x.flip(2, 0);
    x.flip(2, 3);
    CHECK.same("levels from 0 on", Look.levels(x, 2, 0, 5), "11100");
    CHECK.noWire("level(-1, 0)", y -> y.level(-1, 0));
    CHECK.noWire("level(4, 0)", y -> y.level(4, 0));
    CHECK.noWire("level(4, -1)", y -> y.level(4, -1));
    CHECK.badNumber("level(0, -1)", y -> y.level(0, -1));
    CHECK.badNumber("level(0, 10000)", y -> y.level(0, 10000));
  }

  private static void glitch() {
    Probehall x = new Probehall();
    CHECK.same("glitch(0, 5, 3)", x.glitch(0, 5, 3), 2);
    CHECK.same("levels of a glitch", Look.levels(x, 0, 3, 8), "00111000");
    CHECK.same("glitch at the end of another", x.glitch(0, 8, 2), 2);
    CHECK.same("levels of both", Look.levels(x, 0, 3, 9), "001111100");
    CHECK.same("the same glitch takes both away", x.glitch(0, 5, 5), 0);
    CHECK.same("glitch of 99 ticks up to the last", x.glitch(0, 9900, 99), 2);
    CHECK.same("level at its end", x.level(0, 9998) + " " + x.level(0, 9999), "true false");
    CHECK.same("glitch from the tick 0 on", x.glitch(3, 0, 2), 2);
    CHECK.same("its levels", Look.levels(x, 3, 0, 4), "1100");
    CHECK.noWire("glitch(4, 5, 3)", y -> y.glitch(4, 5, 3));
    CHECK.noWire("glitch(-1, -5, 0)", y -> y.glitch(-1, -5, 0));
    CHECK.badNumber("glitch(0, -1, 3)", y -> y.glitch(0, -1, 3));
    CHECK.badNumber("glitch(0, 10000, 3)", y -> y.glitch(0, 10000, 3));
    CHECK.badNumber("glitch(0, 5, 0)", y -> y.glitch(0, 5, 0));
    CHECK.badNumber("glitch(0, 5, 100)", y -> y.glitch(0, 5, 100));
    CHECK.badNumber("glitch(0, 9901, 99)", y -> y.glitch(0, 9901, 99));
    CHECK.badNumber("glitch(0, 9999, 1)", y -> y.glitch(0, 9999, 1));
    CHECK.badNumber("glitch of the greatest int", y -> y.glitch(0, 9999, Integer.MAX_VALUE));
    glitchOfFullWire();
  }

  private static void glitchOfFullWire() {
    CHECK.refused("glitch of a full wire", IllegalStateException.class, x -> fill(x, 0, 150),
        x -> x.glitch(0, 9000, 9));
    CHECK.refused("glitch into one free place", IllegalStateException.class, x -> {
      fill(x, 0, 150);
      x.flip(0, 4);
    }, x -> x.glitch(0, 9000, 9));
    Probehall x = new Probehall();
    fill(x, 0, 150);
    CHECK.same("a glitch that moves a flip of a full wire back", x.glitch(0, 3, 1), 300);
    CHECK.same("a glitch that moves it on again", x.glitch(0, 3, 1), 300);
    CHECK.same("a glitch that takes two", x.glitch(0, 4, 1), 298);
  }

  private static void drift() {
    Probehall x = new Probehall();
    CHECK.same("drift(50)", x.drift(50), 0);
    CHECK.same("drift(-50)", x.drift(-50), 50);
    CHECK.same("drift(0)", x.drift(0), -50);
    CHECK.badNumber("drift(51)", y -> y.drift(51));
    CHECK.badNumber("drift(-51)", y -> y.drift(-51));
    CHECK.same("flips at 50 thousandths", flipTicks(50), "[1000, 1052, 1105, 1157, 1210]");
    CHECK.same("flips at -50 thousandths", flipTicks(-50), "[1000, 1048, 1095, 1143, 1190]");
    CHECK.same("flips without drift", flipTicks(0), "[1000, 1050, 1100, 1150, 1200]");
    Probehall slow = new Probehall();
    slow.drift(50);
    CHECK.same("a while of 2850 ticks", slow.twoWires(0, 1, 0, true, 0, 0, 7, 50), 7 + 2850 + 142);
    CHECK.same("flips at 19 thousandths", flipTicks(19), "[1000, 1050, 1101, 1152, 1203]");
  }

  /** The first five ticks at which a byte flips a wire that flips at each bit of it. */
  private static String flipTicks(int drift) {
    Probehall x = new Probehall();
    x.drift(drift);
    x.serial(0, 0x55, 1000, 50, 'n');
    x.capture(0, 990, 1, 230);
    java.util.List<Integer> ticks = new java.util.ArrayList<>();
    for (int i = 1; i < 230; i++) {
      if (x.sample(0, i) != x.sample(0, i - 1)) {
        ticks.add(990 + i);
      }
    }
    return ticks.toString();
  }

  private static void serial() {
    Probehall x = new Probehall();
    x.idle(0, true);
    CHECK.same("serial(0, 75, 3, 2, 'e')", x.serial(0, 75, 3, 2, 'e'), 25);
    CHECK.same("levels of 75, even", Look.levels(x, 0, 0, 27), "111" + "00" + "1111001100001100"
        + "00" + "1111");
    x.idle(1, true);
    CHECK.same("serial(1, 75, 3, 2, 'o')", x.serial(1, 75, 3, 2, 'o'), 25);
    CHECK.same("levels of 75, odd", Look.levels(x, 1, 0, 27), "111" + "00" + "1111001100001100"
        + "11" + "1111");
    x.idle(2, true);
    CHECK.same("serial(2, 75, 3, 3, 'n')", x.serial(2, 75, 3, 3, 'n'), 33);
    CHECK.same("levels of 75, none", Look.levels(x, 2, 0, 36), "111" + "000"
        + "111111000111000000111000" + "111111");
    CHECK.same("a byte on a low wire", x.serial(3, 7, 0, 2, 'e'), 22);
    CHECK.same("its levels are turned", Look.levels(x, 3, 0, 24), "11" + "0000001111111111" + "00"
        + "0000");
    Probehall y = new Probehall();
    y.idle(0, true);
    y.serial(0, 75, 3, 2, 'n');
    y.serial(0, 75, 3, 2, 'n');
    CHECK.same("a byte again takes its flips away", y.flips(), 0);
    CHECK.same("50 ticks a bit, drift 20", driftedEnd(20, 50, 'o'), 100 + 550 + 11);
    CHECK.same("50 ticks a bit, drift -50", driftedEnd(-50, 50, 'n'), 100 + 500 - 25);
    CHECK.same("999 thousandths a bit are cut", driftedEnd(37, 27, 'n'), 100 + 270 + 9);
    CHECK.same("the same below 0", driftedEnd(-37, 27, 'n'), 100 + 270 - 9);
    CHECK.same("7 ticks a bit, drift -50", driftedEnd(-50, 7, 'n'), 100 + 70 - 3);
  }

  private static int driftedEnd(int drift, int bit, char parity) {
    Probehall x = new Probehall();
    x.drift(drift);
    return x.serial(0, 0, 100, bit, parity);
  }

  private static void serialAtEdges() {
    Probehall x = new Probehall();
    CHECK.same("a byte that ends behind 9999", x.serial(0, 255, 9989, 10, 'n'), 10089);
    CHECK.same("its flips", x.flips(), 2);
    CHECK.refused("a flip behind 9999", IllegalStateException.class, Look::busyScene,
        y -> y.serial(0, 255, 9990, 10, 'n'));
    CHECK.refused("a drifted flip behind 9999", IllegalStateException.class, y -> y.drift(50),
        y -> y.serial(0, 255, 9960, 39, 'n'));
    CHECK.noWire("serial(-1, ..)", y -> y.serial(-1, 75, 10, 6, 'e'));
    CHECK.noWire("serial(4, ..) with bad numbers", y -> y.serial(4, -75, -10, -6, '?'));
    CHECK.badNumber("value -1", y -> y.serial(0, -1, 10, 6, 'e'));
    CHECK.badNumber("value 256", y -> y.serial(0, 256, 10, 6, 'e'));
    CHECK.badNumber("tick -1", y -> y.serial(0, 75, -1, 6, 'e'));
    CHECK.badNumber("tick 10000", y -> y.serial(0, 75, 10000, 6, 'e'));
    CHECK.badNumber("bit 1", y -> y.serial(0, 75, 10, 1, 'e'));
    CHECK.badNumber("bit 51", y -> y.serial(0, 75, 10, 51, 'e'));
    CHECK.badNumber("no such parity", y -> y.serial(0, 75, 10, 6, 'E'));
    CHECK.badNumber("no such parity behind 9999", y -> y.serial(0, 75, 9999, 6, '-'));
    CHECK.refused("a byte on a full wire", IllegalStateException.class, y -> fill(y, 0, 150),
        y -> y.serial(0, 75, 5000, 6, 'e'));
    CHECK.refused("one flip too many", IllegalStateException.class, y -> fill(y, 0, 146),
        y -> y.serial(0, 0x55, 5000, 6, 'n'));
    Probehall full = new Probehall();
    fill(full, 0, 145);
    full.serial(0, 0x55, 5000, 6, 'n');
    CHECK.same("a byte that fills a wire", full.flips(), 300);
    full.serial(0, 0x55, 5000, 6, 'n');
    CHECK.same("its flips taken away from a full wire", full.flips(), 290);
  }

  private static void answers() {
    Probehall x = new Probehall();
    CHECK.same("answers(true, false)", x.answers(true, false), true);
    CHECK.same("answers(false, true)", x.answers(false, true), false);
    CHECK.same("answers(false, false)", x.answers(false, false), false);
    CHECK.same("answers(true, true)", x.answers(true, true), false);
    CHECK.same("answers(true, true) again", x.answers(true, true), true);
  }

  private static void twoWires() {
    twoWiresAre("all answered", true, true, false, "000010100", "000000110", "100000010");
    twoWiresAre("read", true, true, true, "000010110", "000000110", "100000010");
    twoWiresAre("address unanswered", false, true, false, "000010101", "000000110", "100000010");
    twoWiresAre("others unanswered", true, false, false, "000010100", "000000111", "100000011");
    Probehall x = new Probehall();
    x.drift(20);
    CHECK.same("the end by the drift", x.twoWires(1, 2, 127, true, 15, 255, 200, 2), 316);
    x.drift(-50);
    CHECK.same("the end by a drift below", x.twoWires(1, 2, 0, true, 0, 0, 200, 2), 309);
    CHECK.same("the end of the greatest half", x.twoWires(3, 0, 0, true, 0, 0, 0, 50), 2850 - 142);
  }

  private static void twoWiresAre(String what, boolean address, boolean others, boolean reads,
      String one, String two, String three) {
    for (int half = 1; half <= 2; half++) {
      Probehall x = new Probehall();
      x.idle(3, true);
      x.idle(1, true);
      x.answers(address, others);
      CHECK.same(what + " ends", x.twoWires(3, 1, 5, reads, 3, 129, 2, half), 2 + 57 * half);
      String clock = "1" + "01".repeat(28) + "11";
      StringBuilder data = new StringBuilder("0");
      for (char bit : (one + two + three).toCharArray()) {
        data.append(bit).append(bit);
      }
      data.append("0011");
      int many = 59 * half;
      CHECK.same(what + ", clock", Look.levels(x, 3, 0, many + 2), "11" + wide(clock, half));
      CHECK.same(what + ", data", Look.levels(x, 1, 0, many + 2),
          "11" + wide(data.substring(0, 59), half));
    }
  }

  private static String wide(String text, int times) {
    StringBuilder result = new StringBuilder();
    for (char sign : text.toCharArray()) {
      result.append(String.valueOf(sign).repeat(times));
    }
    return result.toString();
  }

  private static void twoWiresAtEdges() {
    Probehall x = new Probehall();
    CHECK.same("the last flip at 9999", x.twoWires(0, 1, 0, false, 0, 0, 9942, 1), 9999);
    CHECK.refused("the last flip behind 9999", IllegalStateException.class, Look::emptyScene,
        y -> y.twoWires(0, 1, 0, false, 0, 0, 9943, 1));
    CHECK.noWire("clock -1", y -> y.twoWires(-1, 1, 5, false, 3, 129, 4, 2));
    CHECK.noWire("clock 4", y -> y.twoWires(4, 1, 5, false, 3, 129, 4, 2));
    CHECK.noWire("data -1", y -> y.twoWires(0, -1, 5, false, 3, 129, 4, 2));
    CHECK.noWire("data 4 and bad numbers", y -> y.twoWires(0, 4, -5, false, -3, -9, -4, 0));
    CHECK.noWire("both the same and none", y -> y.twoWires(4, 4, 5, false, 3, 129, 4, 2));
    CHECK.badNumber("address -1", y -> y.twoWires(0, 1, -1, false, 3, 129, 4, 2));
    CHECK.badNumber("address 128", y -> y.twoWires(0, 1, 128, false, 3, 129, 4, 2));
    CHECK.badNumber("register -1", y -> y.twoWires(0, 1, 5, false, -1, 129, 4, 2));
    CHECK.badNumber("register 16", y -> y.twoWires(0, 1, 5, false, 16, 129, 4, 2));
    CHECK.badNumber("value -1", y -> y.twoWires(0, 1, 5, false, 3, -1, 4, 2));
    CHECK.badNumber("value 256", y -> y.twoWires(0, 1, 5, false, 3, 256, 4, 2));
    CHECK.badNumber("tick -1", y -> y.twoWires(0, 1, 5, false, 3, 129, -1, 2));
    CHECK.badNumber("tick 10000", y -> y.twoWires(0, 1, 5, false, 3, 129, 10000, 2));
    CHECK.badNumber("half 0", y -> y.twoWires(0, 1, 5, false, 3, 129, 4, 0));
    CHECK.badNumber("half 51", y -> y.twoWires(0, 1, 5, false, 3, 129, 4, 51));
    CHECK.badNumber("both wires the same", y -> y.twoWires(2, 2, 5, false, 3, 129, 4, 2));
    CHECK.refused("a full clock", IllegalStateException.class, y -> fill(y, 0, 123),
        y -> y.twoWires(0, 1, 5, false, 3, 129, 5000, 2));
    CHECK.refused("a full data", IllegalStateException.class, y -> fill(y, 1, 149),
        y -> y.twoWires(0, 1, 5, false, 3, 129, 5000, 2));
    Probehall full = new Probehall();
    fill(full, 0, 122);
    full.twoWires(0, 1, 5, false, 3, 129, 5000, 2);
    CHECK.same("a clock of 300 flips", full.flip(0, 5002), 299);
    Probehall fast = new Probehall();
    fast.idle(0, true);
    fast.drift(-50);
    CHECK.same("the end of a fast one", fast.twoWires(0, 1, 0, false, 0, 0, 100, 1), 155);
    CHECK.same("two flips at one tick are none", Look.levels(fast, 0, 115, 8), "01011010");
    CHECK.same("flips of a clock with two such ticks", fast.flip(0, 9000), 53);
  }

  private static void fourWires() {
    String select = "0".repeat(17) + "11";
    String rising = "0" + "10".repeat(8) + "00";
    String falling = "1" + "01".repeat(8) + "11";
    String early = "1100111100001111" + "100";
    String late = "0" + "1100111100001111" + "00";
    fourWiresAre(0, rising, early, select);
    fourWiresAre(1, rising, late, select);
    fourWiresAre(2, falling, early, select);
    fourWiresAre(3, falling, late, select);
    Probehall x = new Probehall();
    x.drift(20);
    CHECK.same("the end by the drift", x.fourWires(3, 0, 2, 178, 500, 3, 0), 552);
    x.drift(-50);
    CHECK.same("the end by a drift below", x.fourWires(3, 0, 2, 178, 0, 50, 0), 850 - 42);
    CHECK.same("flips of no bits", flipsOf(0, 0), 18);
    CHECK.same("flips of one bit", flipsOf(1, 1), 20);
    CHECK.same("flips of all bits", flipsOf(255, 0), 20);
  }

  private static int flipsOf(int value, int mode) {
    Probehall x = new Probehall();
    x.fourWires(3, 0, 2, value, 500, 3, mode);
    return x.flips();
  }

  private static void fourWiresAre(int mode, String clock, String data, String select) {
    for (int half = 1; half <= 3; half += 2) {
      Probehall x = new Probehall();
      x.idle(1, mode >= 2);
      x.idle(0, true);
      int end = x.fourWires(1, 3, 0, 179, 4, half, mode);
      CHECK.same("mode " + mode + " ends", end, 4 + 17 * half);
      int many = 19 * half;
      CHECK.same("mode " + mode + ", clock", Look.levels(x, 1, 4, many), wide(clock, half));
      CHECK.same("mode " + mode + ", data", Look.levels(x, 3, 4, many), wide(data, half));
      CHECK.same("mode " + mode + ", select", Look.levels(x, 0, 4, many), wide(select, half));
    }
  }

  private static void fourWiresAtEdges() {
    Probehall x = new Probehall();
    CHECK.same("the last flip at 9999", x.fourWires(0, 1, 2, 0, 9982, 1, 0), 9999);
    CHECK.refused("the last flip behind 9999", IllegalStateException.class, Look::emptyScene,
        y -> y.fourWires(0, 1, 2, 0, 9983, 1, 0));
    CHECK.noWire("clock 4", y -> y.fourWires(4, 1, 2, 178, 9, 3, 0));
    CHECK.noWire("data -1", y -> y.fourWires(0, -1, 2, 178, 9, 3, 0));
    CHECK.noWire("select 4 and bad numbers", y -> y.fourWires(1, 1, 4, -178, -9, 0, 4));
    CHECK.badNumber("value -1", y -> y.fourWires(0, 1, 2, -1, 9, 3, 0));
    CHECK.badNumber("value 256", y -> y.fourWires(0, 1, 2, 256, 9, 3, 0));
    CHECK.badNumber("tick -1", y -> y.fourWires(0, 1, 2, 178, -1, 3, 0));
    CHECK.badNumber("tick 10000", y -> y.fourWires(0, 1, 2, 178, 10000, 3, 0));
    CHECK.badNumber("half 0", y -> y.fourWires(0, 1, 2, 178, 9, 0, 0));
    CHECK.badNumber("half 51", y -> y.fourWires(0, 1, 2, 178, 9, 51, 0));
    CHECK.badNumber("mode -1", y -> y.fourWires(0, 1, 2, 178, 9, 3, -1));
    CHECK.badNumber("mode 4", y -> y.fourWires(0, 1, 2, 178, 9, 3, 4));
    CHECK.badNumber("clock is data", y -> y.fourWires(1, 1, 2, 178, 9, 3, 0));
    CHECK.badNumber("clock is select", y -> y.fourWires(2, 1, 2, 178, 9, 3, 0));
    CHECK.badNumber("data is select", y -> y.fourWires(0, 2, 2, 178, 9, 3, 0));
    CHECK.refused("a full clock", IllegalStateException.class, y -> fill(y, 0, 143),
        y -> y.fourWires(0, 1, 2, 178, 5000, 3, 0));
    CHECK.refused("a full data", IllegalStateException.class, y -> fill(y, 1, 150),
        y -> y.fourWires(0, 1, 2, 178, 5000, 3, 0));
    CHECK.refused("a full select", IllegalStateException.class, y -> fill(y, 2, 150),
        y -> y.fourWires(0, 1, 2, 178, 5000, 3, 0));
    Probehall full = new Probehall();
    fill(full, 0, 142);
    full.fourWires(0, 1, 2, 0, 5000, 3, 0);
    CHECK.same("a clock of 300 flips", full.flip(0, 5003), 299);
  }
}
