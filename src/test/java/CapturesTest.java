import java.util.NoSuchElementException;
import java.util.function.Consumer;

/** Promises 11 to 20: captures, their runs and blocks, and triggers. */
public final class CapturesTest {
  private static final Check CHECK = new Check("CapturesTest");

  private CapturesTest() {
  }

  public static void main(String[] args) {
    capture();
    samples();
    sample();
    runs();
    run();
    shortest();
    block();
    step();
    reset();
    triggerOfOneStep();
    triggerOfSteps();
    triggerRefused();
    CHECK.finish();
  }

  private static void none(String what, Consumer<Probehall> call) {
    CHECK.refused(what, NoSuchElementException.class, Look::busyScene, call);
  }

  private static void noneIfEmpty(String what, Consumer<Probehall> call) {
    CHECK.refused(what, NoSuchElementException.class, Look::emptyScene, call);
  }

  private static String samplesOf(Probehall x, int capture) {
    StringBuilder text = new StringBuilder();
    for (int i = 0; i < x.samples(capture); i++) {
      text.append(Integer.toHexString(x.sample(capture, i)));
    }
    return text.toString();
  }

  private static void capture() {
    Probehall x = new Probehall();
    Look.draw(x, 0, "0011001100");
    Look.draw(x, 3, "0111111110");
    CHECK.same("capture of each tick", x.capture(0, 0, 1, 10), 6);
    CHECK.same("its samples", samplesOf(x, 0), "0899889980");
    CHECK.same("capture of each third tick", x.capture(1, 1, 3, 3), 1);
    CHECK.same("its samples", samplesOf(x, 1), "889");
    CHECK.same("the other capture stays", samplesOf(x, 0), "0899889980");
    x.flip(0, 0);
    x.idle(1, true);
    CHECK.same("a capture stays as taken", samplesOf(x, 1), "889");
    CHECK.same("capture anew", x.capture(1, 3, 1, 2), 1);
    CHECK.same("in place of those there", samplesOf(x, 1), "ab");
    CHECK.same("one sample at the last tick", x.capture(0, 9999, 99, 1), 0);
    CHECK.same("its level", samplesOf(x, 0), "3");
    CHECK.same("400 samples", x.capture(0, 9600, 1, 400), 0);
    CHECK.same("their number", x.samples(0), 400);
    x.flip(2, 9999);
    CHECK.same("a long step up to 9999", x.capture(0, 0, 99, 102), 1);
    CHECK.same("two wires that change at once are one", changesAtOnce(), 2);
    captureRefused();
  }

  private static int changesAtOnce() {
    Probehall x = new Probehall();
    Look.draw(x, 1, "00111000");
    Look.draw(x, 2, "11000111");
    return x.capture(1, 0, 1, 8);
  }

  private static void captureRefused() {
    CHECK.noWire("capture(-1, ..)", y -> y.capture(-1, 0, 1, 10));
    CHECK.noWire("capture(2, ..) with bad numbers", y -> y.capture(2, -1, 0, 0));
    CHECK.badNumber("from -1", y -> y.capture(0, -1, 1, 10));
    CHECK.badNumber("from 10000", y -> y.capture(0, 10000, 1, 1));
    CHECK.badNumber("step 0", y -> y.capture(0, 0, 0, 10));
    CHECK.badNumber("step 100", y -> y.capture(0, 0, 100, 10));
    CHECK.badNumber("step 100 of one sample", y -> y.capture(0, 0, 100, 1));
    CHECK.badNumber("many 0", y -> y.capture(0, 0, 1, 0));
    CHECK.badNumber("many 0 from 50 on", y -> y.capture(0, 50, 1, 0));
    CHECK.badNumber("many 401", y -> y.capture(0, 0, 1, 401));
    CHECK.badNumber("a last sample at 10000", y -> y.capture(0, 9601, 1, 400));
    CHECK.badNumber("a last sample far behind", y -> y.capture(0, 0, 99, 103));
    CHECK.badNumber("many too great", y -> y.capture(0, 0, 99, Integer.MAX_VALUE));
  }

  private static void samples() {
    Probehall x = new Probehall();
    x.capture(1, 0, 2, 7);
    CHECK.same("samples(0)", x.samples(0), 0);
    CHECK.same("samples(1)", x.samples(1), 7);
    CHECK.noWire("samples(-1)", y -> y.samples(-1));
    CHECK.noWire("samples(2)", y -> y.samples(2));
  }

  private static void sample() {
    Probehall x = new Probehall();
    x.idle(0, true);
    x.idle(1, true);
    x.idle(2, true);
    x.idle(3, true);
    x.flip(1, 3);
    x.capture(1, 2, 1, 3);
    CHECK.same("sample(1, 0)", x.sample(1, 0), 15);
    CHECK.same("sample(1, 2)", x.sample(1, 2), 13);
    CHECK.noWire("sample(-1, 0)", y -> y.sample(-1, 0));
    CHECK.noWire("sample(2, -1)", y -> y.sample(2, -1));
    none("sample(0, -1)", y -> y.sample(0, -1));
    none("sample(0, 150)", y -> y.sample(0, 150));
    none("sample(0, the greatest int)", y -> y.sample(0, Integer.MAX_VALUE));
    noneIfEmpty("sample(1, 0) of none", y -> y.sample(1, 0));
  }

  private static void runs() {
    CHECK.same("runs of 0011101", Look.drawn("0011101").runs(0, 0), 4);
    CHECK.same("runs of 1", Look.drawn("1").runs(0, 0), 1);
    CHECK.same("runs of 111", Look.drawn("111").runs(0, 0), 1);
    CHECK.same("runs of 10", Look.drawn("10").runs(0, 0), 2);
    CHECK.same("runs of another wire", Look.drawn("0011101").runs(0, 3), 1);
    CHECK.same("runs of no samples", new Probehall().runs(1, 2), 0);
    CHECK.noWire("runs(2, 0)", y -> y.runs(2, 0));
    CHECK.noWire("runs(-1, 0)", y -> y.runs(-1, 0));
    CHECK.noWire("runs(0, 4)", y -> y.runs(0, 4));
    CHECK.noWire("runs(0, -1)", y -> y.runs(0, -1));
  }

  private static void run() {
    Probehall x = Look.drawn("0011101");
    CHECK.same("runs of 0011101", "" + x.run(0, 0, 0) + x.run(0, 0, 1) + x.run(0, 0, 2)
        + x.run(0, 0, 3), "2311");
    CHECK.same("run of another wire", x.run(0, 2, 0), 7);
    CHECK.noWire("run(2, 0, -1)", y -> y.run(2, 0, -1));
    CHECK.noWire("run(0, 4, 0)", y -> y.run(0, 4, 0));
    none("run(0, 0, -1)", y -> y.run(0, 0, -1));
    none("run(0, 3, 1)", y -> y.run(0, 3, 1));
    none("run(0, 0, the least int)", y -> y.run(0, 0, Integer.MIN_VALUE));
    noneIfEmpty("run(0, 0, 0) of no samples", y -> y.run(0, 0, 0));
    CHECK.refused("run(0, 0, 4)", NoSuchElementException.class,
        y -> Look.draw(y, 0, "0011101"), y -> y.run(0, 0, 4));
  }

  private static void shortest() {
    CHECK.same("shortest of 0111001110", Look.drawn("0111001110").shortest(0, 0), 2);
    CHECK.same("shortest of 00111110", Look.drawn("00111110").shortest(0, 0), 5);
    CHECK.same("shortest of 0001111001", Look.drawn("0001111001").shortest(0, 0), 2);
    CHECK.same("shortest of 000111100011000", Look.drawn("000111100011000").shortest(0, 0), 2);
    CHECK.same("shortest of 010", Look.drawn("010").shortest(0, 0), 1);
    CHECK.noWire("shortest(2, 0)", y -> y.shortest(2, 0));
    CHECK.noWire("shortest(0, -1)", y -> y.shortest(0, -1));
    noneIfEmpty("shortest of no samples", y -> y.shortest(0, 0));
    innerless("0");
    innerless("000");
    innerless("0111");
  }

  private static void innerless(String levels) {
    Consumer<Probehall> scene = y -> {
      Look.draw(y, 0, levels);
      y.capture(0, 0, 1, levels.length());
    };
    CHECK.refused("shortest of " + levels, NoSuchElementException.class, scene,
        y -> y.shortest(0, 0));
    CHECK.refused("rate of " + levels, NoSuchElementException.class, scene, y -> y.rate(0, 0));
  }

  private static String blocks(Probehall x, int degree, int many) {
    StringBuilder text = new StringBuilder();
    for (int i = 0; i < many; i++) {
      text.append(x.block(0, 0, degree, i));
    }
    return text.toString();
  }

  private static void block() {
    String levels = "1111000000111111110";
    Probehall x = Look.drawn(levels);
    CHECK.same("blocks of the degree 0", blocks(x, 0, 19), "1111x00000x1111111x");
    CHECK.same("blocks of the degree 1", blocks(x, 1, 10), "11x00x111x");
    CHECK.same("blocks of the degree 2", blocks(x, 2, 5), "1xx1x");
    CHECK.same("blocks of the degree 3", blocks(x, 3, 3), "xxx");
    CHECK.same("blocks of the degree 4", blocks(x, 4, 2), "xx");
    CHECK.same("blocks of the degree 5", blocks(x, 5, 1), "x");
    CHECK.same("blocks of the degree 9", blocks(x, 9, 1), "x");
    CHECK.same("a pulse does not hide", blocks(Look.drawn("0000000010000000"), 2, 4), "00x0");
    CHECK.same("the sample ahead counts", blocks(Look.drawn("0000111100001111"), 2, 4), "0xxx");
    CHECK.same("a whole one of highs", blocks(Look.drawn("11111"), 9, 1), "1");
    CHECK.same("another wire's block", x.block(0, 1, 9, 0), '0');
    for (int degree = 0; degree <= 9; degree++) {
      int d = degree;
      int many = (19 + (1 << d) - 1) / (1 << d);
      CHECK.refused("block " + many + " of the degree " + d, NoSuchElementException.class, y -> {
        Look.draw(y, 0, levels);
        y.capture(0, 0, 1, 19);
      }, y -> y.block(0, 0, d, many));
    }
    CHECK.noWire("block(2, 0, -1, -1)", y -> y.block(2, 0, -1, -1));
    CHECK.noWire("block(0, 4, 10, 0)", y -> y.block(0, 4, 10, 0));
    CHECK.badNumber("degree -1", y -> y.block(0, 0, -1, 0));
    CHECK.badNumber("degree 10 and no such block", y -> y.block(0, 0, 10, -1));
    none("block -1", y -> y.block(0, 0, 3, -1));
    none("block of the greatest int", y -> y.block(0, 0, 9, Integer.MAX_VALUE));
    none("block that shifts to 0", y -> y.block(0, 0, 9, 1 << 23));
    noneIfEmpty("block of no samples", y -> y.block(1, 0, 0, 0));
  }

  private static void step() {
    Probehall x = new Probehall();
    CHECK.same("step r", x.step('r', 0, 1), 1);
    CHECK.same("step f", x.step('f', 3, 400), 2);
    CHECK.same("step h", x.step('h', 1, 400), 3);
    CHECK.same("step l", x.step('l', 2, 1), 4);
    CHECK.same("step p without a wire", x.step('p', -9, 0), 5);
    CHECK.same("step t without a wire", x.step('t', 99, 400), 6);
    CHECK.same("their number", x.reset(), 6);
    CHECK.same("step p of 15", x.step('p', 4, 15), 1);
    CHECK.noWire("step('r', -1, 1)", y -> y.step('r', -1, 1));
    CHECK.noWire("step('h', 4, 0)", y -> y.step('h', 4, 0));
    CHECK.noWire("no such kind and wire", y -> y.step('x', 4, 1));
    CHECK.badNumber("no such kind", y -> y.step('x', 0, 1));
    CHECK.badNumber("kind R", y -> y.step('R', 0, 1));
    for (char kind : "rfhlt".toCharArray()) {
      CHECK.badNumber(kind + " of 0", y -> y.step(kind, 0, 0));
      CHECK.badNumber(kind + " of 401", y -> y.step(kind, 0, 401));
      CHECK.badNumber(kind + " of -1", y -> y.step(kind, 0, -1));
    }
    CHECK.badNumber("p of -1", y -> y.step('p', 0, -1));
    CHECK.badNumber("p of 16", y -> y.step('p', 0, 16));
    Consumer<Probehall> sixSteps = y -> {
      for (int i = 0; i < 6; i++) {
        y.step('t', 0, 1);
      }
    };
    CHECK.refused("a seventh step", IllegalStateException.class, sixSteps,
        y -> y.step('t', 0, 1));
    CHECK.refused("a seventh step out of range", IllegalArgumentException.class, sixSteps,
        y -> y.step('t', 0, 0));
    CHECK.refused("a seventh step of no wire", IndexOutOfBoundsException.class, sixSteps,
        y -> y.step('r', 4, 0));
  }

  private static void reset() {
    Probehall x = new Probehall();
    CHECK.same("reset of none", x.reset(), 0);
    x.step('t', 0, 3);
    x.step('t', 0, 3);
    CHECK.same("reset of two", x.reset(), 2);
    CHECK.same("reset again", x.reset(), 0);
    x.capture(0, 0, 1, 9);
    x.step('t', 0, 5);
    CHECK.same("no step of before is left", x.trigger(0), 4);
  }

  /** Steps as words: kind, wire, number. */
  private static String trigger(Probehall x, String steps) {
    x.reset();
    for (String step : steps.split(" ")) {
      x.step(step.charAt(0), step.charAt(1) - '0', Integer.parseInt(step.substring(2)));
    }
    return Check.answerOf(() -> x.trigger(0));
  }

  private static void met(String levels, String steps, String due) {
    CHECK.same(steps + " of " + levels, trigger(Look.drawn(levels), steps), due);
  }

  private static final String NONE = "throws.NoSuchElementException";

  private static void triggerOfOneStep() {
    met("1101001", "r01", "3");
    met("1101001", "r02", "6");
    met("1101001", "r03", NONE);
    met("1101001", "f01", "2");
    met("1101001", "f02", "4");
    met("1101001", "f03", NONE);
    met("1101001", "h01", "0");
    met("1101001", "h02", "1");
    met("1101001", "h03", NONE);
    met("110111", "h03", "5");
    met("1101001", "l01", "2");
    met("1101001", "l02", "5");
    met("1101001", "l03", NONE);
    met("1101001", "t01", "0");
    met("1101001", "t07", "6");
    met("1101001", "t08", NONE);
    met("1101001", "p01", "0");
    met("1101001", "p00", "2");
    met("1101001", "p02", NONE);
    met("0000", "l14", "3");
    Probehall x = new Probehall();
    Look.draw(x, 0, "000111000");
    Look.draw(x, 2, "001111110");
    x.capture(0, 0, 1, 9);
    CHECK.same("levels of two wires", trigger(x, "p05"), "3");
    CHECK.same("levels of the last", trigger(x, "p05 p00"), "8");
    CHECK.same("levels with more", trigger(x, "p07"), NONE);
    CHECK.same("another wire falls", trigger(x, "f21"), "8");
  }

  private static void triggerOfSteps() {
    met("1101001", "t03 f01", "4");
    met("1101001", "t02 f01", "2");
    met("1101001", "f01 r01", "3");
    met("1101001", "f01 f01", "4");
    met("11110111", "h02 h02", "3");
    met("11110111", "h03 h02", "6");
    met("11110111", "h04 h01", "5");
    met("11110111", "h01 h01 h01 h01 h01 h01", "6");
    met("11110111", "p01 p01 l01 p01 t02", "7");
    met("11110111", "p01 p01 l01 p01 t03", NONE);
    met("0101010101", "r02 f02 r01", "7");
    met("0101", "t04 t01", NONE);
    met("0101", "r03 t01", NONE);
    Probehall x = Look.drawn("0101");
    x.step('r', 0, 1);
    CHECK.same("a trigger looked for twice", x.trigger(0) + x.trigger(0), 2);
    x.capture(1, 1, 1, 3);
    CHECK.same("the other capture", x.trigger(1), 2);
    CHECK.same("its steps stay", x.reset(), 1);
  }

  private static void triggerRefused() {
    CHECK.noWire("trigger(-1)", y -> y.trigger(-1));
    CHECK.refused("trigger(2) without steps", IndexOutOfBoundsException.class, Look::emptyScene,
        y -> y.trigger(2));
    CHECK.refused("trigger without steps", UnsupportedOperationException.class, Look::emptyScene,
        y -> y.trigger(0));
    CHECK.refused("trigger of no samples", NoSuchElementException.class, y -> y.step('t', 0, 1),
        y -> y.trigger(0));
    CHECK.refused("trigger that is not met", NoSuchElementException.class, y -> {
      Look.busyScene(y);
      y.step('p', 0, 0);
      y.step('r', 3, 400);
    }, y -> y.trigger(0));
  }
}
