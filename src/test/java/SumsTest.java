import java.util.NoSuchElementException;

/** Promises 36 to 40, and the first example of the document. */
public final class SumsTest {
  private static final Check CHECK = new Check("SumsTest");

  private SumsTest() {
  }

  public static void main(String[] args) {
    flips();
    checksum();
    highShare();
    meanRun();
    isSound();
    firstExample();
    CHECK.finish();
  }

  private static void flips() {
    Probehall x = new Probehall();
    x.flip(0, 5);
    x.flip(1, 5);
    x.flip(3, 0);
    x.glitch(2, 9000, 4);
    CHECK.same("flips of all wires", x.flips(), 5);
    x.flip(1, 5);
    x.idle(1, true);
    x.capture(0, 0, 1, 9);
    CHECK.same("flips behind one that is none", x.flips(), 4);
  }

  private static void checksum() {
    Probehall x = new Probehall();
    CHECK.same("checksum of nothing", x.checksum(), 7L);
    Look.draw(x, 0, "101");
    x.idle(3, true);
    x.capture(1, 1, 1, 2);
    CHECK.same("checksum of the capture 1", x.checksum(), (7L * 31 + 8) * 31 + 9);
    x.capture(0, 0, 1, 1);
    CHECK.same("checksum of both", x.checksum(), ((7L * 31 + 9) * 31 + 8) * 31 + 9);
    Probehall y = Look.drawn("1" + "0110100101");
    y.decodeSerial(0, 0, 10, 'n');
    y.capture(0, 0, 1, 1);
    CHECK.same("checksum of a note", y.checksum(), ((7L * 31 + 1) * 31 + 'B') * 31 + 75);
    Probehall z = Look.drawn("1010");
    z.idle(1, true);
    z.capture(0, 0, 1, 4);
    z.decodeTwo(0, 1, 0);
    long sum = 7;
    for (int part : new int[] {3, 2, 3, 2, 'S', 0, 'E', 0, 'S', 0}) {
      sum = sum * 31 + part;
    }
    CHECK.same("checksum of starts and ends", z.checksum(), sum);
    z.flip(3, 9000);
    z.drift(3);
    z.step('t', 0, 1);
    CHECK.same("checksum without the rest", z.checksum(), sum);
    Probehall full = new Probehall();
    full.idle(3, true);
    full.capture(0, 0, 1, 400);
    full.capture(1, 0, 1, 400);
    long wrapped = 7;
    for (int i = 0; i < 800; i++) {
      wrapped = wrapped * 31 + 8;
    }
    CHECK.same("checksum that goes round", full.checksum(), wrapped);
  }

  private static void highShare() {
    CHECK.same("share of 0010", Look.drawn("0010").highShare(0, 0), 0.25f);
    CHECK.same("share of 110", Look.drawn("110").highShare(0, 0), 2f / 3f);
    CHECK.same("share of 111", Look.drawn("111").highShare(0, 0), 1f);
    CHECK.same("share of one sample", Look.drawn("1").highShare(0, 0), 1f);
    CHECK.same("share of another wire", Look.drawn("111").highShare(0, 3), 0f);
    CHECK.noWire("highShare(2, 0)", x -> x.highShare(2, 0));
    CHECK.noWire("highShare(-1, 0)", x -> x.highShare(-1, 0));
    CHECK.noWire("highShare(0, 4)", x -> x.highShare(0, 4));
    CHECK.refused("highShare of no wire and samples", IndexOutOfBoundsException.class,
        Look::emptyScene, x -> x.highShare(0, -1));
    CHECK.refused("highShare of no samples", NoSuchElementException.class, Look::emptyScene,
        x -> x.highShare(1, 0));
  }

  private static void meanRun() {
    CHECK.same("mean of 0011101", Look.drawn("0011101").meanRun(0, 0), 1.75);
    CHECK.same("mean of 1100110", Look.drawn("1100110").meanRun(0, 0), 1.75);
    CHECK.same("mean of 1", Look.drawn("1").meanRun(0, 0), 1.0);
    CHECK.same("mean of 10", Look.drawn("10").meanRun(0, 0), 1.0);
    CHECK.same("mean of 0011100", Look.drawn("0011100").meanRun(0, 0), 7.0 / 3.0);
    CHECK.same("mean of another wire", Look.drawn("0011101").meanRun(0, 1), 7.0);
    CHECK.noWire("meanRun(2, 0)", x -> x.meanRun(2, 0));
    CHECK.noWire("meanRun(-1, 0)", x -> x.meanRun(-1, 0));
    CHECK.noWire("meanRun(0, 4)", x -> x.meanRun(0, 4));
    CHECK.refused("meanRun of no wire and samples", IndexOutOfBoundsException.class,
        Look::emptyScene, x -> x.meanRun(0, -1));
    CHECK.refused("meanRun of no samples", NoSuchElementException.class, Look::emptyScene,
        x -> x.meanRun(1, 0));
  }

  private static void isSound() {
    CHECK.same("an empty bench", new Probehall().isSound(), true);
    Probehall x = new Probehall();
    Look.busyScene(x);
    CHECK.same("a busy bench", x.isSound(), true);
    x.decodeFour(1, 3, 1, 2, 0);
    CHECK.same("behind another decoding", x.isSound(), true);
    x.capture(0, 0, 1, 400);
    x.decodeSerial(0, 0, 10, 'e');
    CHECK.same("behind serial decoding", x.isSound(), true);
    CHECK.same("changes at each sample", Look.drawn("01".repeat(120)).isSound(), true);
    CHECK.same("a change at the last sample", Look.drawn("0".repeat(399) + "1").isSound(), true);
  }

  private static void firstExample() {
    Probehall x = new Probehall();
    String[] due = ("false 76 8 60 0 9 3 3 30 1 1 B 75 - 5 36 x 1 2 11 2 0 10 11 false 9 49 49 0 "
        + "false false true 316 58 5 10 129 1 552 18 1 103 0.34285715 4.117647058823529 "
        + "-7000632909945866762 true").split(" ");
    Object[] got = {x.idle(0, true), x.serial(0, 75, 10, 6, 'e'), x.capture(0, 0, 2, 60),
        x.samples(0), x.sample(0, 5), x.runs(0, 0), x.run(0, 0, 1), x.shortest(0, 0), x.rate(0, 0),
        x.decodeSerial(0, 0, 30, 'e'), x.notes(), x.kind(0), x.value(0), x.fault(0), x.begin(0),
        x.end(0), x.block(0, 0, 2, 1), x.step('f', 0, 1), x.step('h', 0, 4), x.trigger(0),
        x.reset(), x.drift(20), x.glitch(0, 30, 1), x.flip(0, 99), x.level(0, 40),
        x.capture(1, 1, 2, 60), x.alike(0), x.differs(0), x.best(3), x.idle(1, true),
        x.idle(2, true), x.answers(true, true), x.twoWires(1, 2, 5, false, 3, 129, 200, 2),
        x.capture(0, 196, 1, 150), x.decodeTwo(0, 1, 2), x.value(1), x.register(5, 3),
        x.follows(10, 3), x.fourWires(3, 0, 2, 178, 500, 3, 0), x.capture(0, 490, 1, 70),
        x.decodeFour(0, 3, 0, 2, 0), x.flips(), x.highShare(0, 3), x.meanRun(0, 3), x.checksum(),
        x.isSound()};
    CHECK.same("calls of the first example", got.length, due.length);
    for (int i = 0; i < Math.min(got.length, due.length); i++) {
      CHECK.same("call " + (i + 1) + " of the first example", String.valueOf(got[i]), due[i]);
    }
  }
}
