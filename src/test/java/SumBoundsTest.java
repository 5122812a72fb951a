import java.util.NoSuchElementException;

/** The bounds of promises 33 to 40: captures laid beside each other, and sums. */
public final class SumBoundsTest {
  private static final Check CHECK = new Check("SumBoundsTest");

  private SumBoundsTest() {
  }

  public static void main(String[] args) {
    offsets();
    offsetsOfFew();
    differs();
    unlikeless();
    bounds();
    bestOfLikeOnes();
    bestRefused();
    flips();
    checksumOfNothing();
    checksumOfAll();
    highShare();
    meanRun();
    isSound();
    CHECK.finish();
  }

  /** Both captures take the same wire, from two ticks on. */
  private static Probehall laid(String levels, int from, int many, int other, int otherMany) {
    Probehall x = new Probehall();
    Look.draw(x, 2, levels);
    x.capture(0, from, 1, many);
    x.capture(1, other, 1, otherMany);
    return x;
  }

  private static void offsets() {
    CHECK.says("the offset, -399 to 399");
    Probehall x = laid("0", 0, 400, 500, 400);
    for (int offset : new int[] {0, 1, -1, 200, -200, 398, -398, 399, -399}) {
      CHECK.same("400 alike at " + offset, x.alike(offset), 400 - Math.abs(offset));
    }
    for (int wrong : new int[] {400, -400, Integer.MAX_VALUE, Integer.MIN_VALUE}) {
      CHECK.badNumber("alike at " + wrong, y -> y.alike(wrong));
      CHECK.badNumber("differs at " + wrong, y -> y.differs(wrong));
      CHECK.refused("alike of full captures at " + wrong, IllegalArgumentException.class,
          Full::captures, y -> y.alike(wrong));
      CHECK.refused("differs of no samples at " + wrong, IllegalArgumentException.class,
          Look::emptyScene, y -> y.differs(wrong));
    }
    CHECK.says("At an offset the sample i of the capture 0 stands beside i and the offset of the "
        + "capture 1.");
    Probehall ends = laid("1" + "0".repeat(398) + "1", 0, 400, 0, 400);
    CHECK.same("ends of two alike", ends.alike(399) + " " + ends.alike(-399), "1 1");
    CHECK.same("ends and their neighbours", ends.alike(398) + " " + ends.alike(-398), "0 0");
    Probehall turned = laid("1" + "0".repeat(399) + "1" + "1".repeat(399), 0, 400, 400, 400);
    CHECK.same("none but the first is like", turned.alike(0) + " " + turned.alike(399) + " "
        + turned.alike(-399), "1 1 0");
    CHECK.same("unlike ones", turned.differs(0) + " " + turned.differs(-399), "1 399");
  }

  private static void offsetsOfFew() {
    CHECK.says("Returns how many samples that stand beside each other are alike.");
    CHECK.same("no samples", new Probehall().alike(0) + new Probehall().alike(399)
        + new Probehall().alike(-399), 0);
    Probehall none = new Probehall();
    none.capture(0, 0, 1, 400);
    CHECK.same("none in the capture 1", none.alike(0) + none.alike(399) + none.alike(-399), 0);
    Probehall first = new Probehall();
    first.capture(1, 0, 1, 400);
    CHECK.same("none in the capture 0", first.alike(0) + first.alike(399) + first.alike(-399), 0);
    Probehall one = laid("0", 0, 1, 0, 400);
    CHECK.same("one and 400", one.alike(0) + " " + one.alike(399) + " " + one.alike(-1), "1 1 0");
    Probehall other = laid("0", 0, 400, 0, 1);
    CHECK.same("400 and one", other.alike(0) + " " + other.alike(-399) + " " + other.alike(1),
        "1 1 0");
    Probehall ones = laid("0", 0, 1, 9, 1);
    CHECK.same("one and one", ones.alike(0) + " " + ones.alike(1) + " " + ones.alike(-1), "1 0 0");
    Probehall five = laid("0", 0, 5, 9, 7);
    StringBuilder many = new StringBuilder();
    for (int offset = -6; offset <= 8; offset++) {
      many.append(five.alike(offset));
    }
    CHECK.same("five and seven", many.toString(), "001234555432100");
    Probehall wires = new Probehall();
    wires.capture(0, 0, 1, 3);
    wires.idle(3, true);
    wires.capture(1, 0, 1, 3);
    CHECK.same("the levels of all wires are to be alike", wires.alike(0), 0);
  }

  private static void differs() {
    CHECK.says("Returns the first sample of the capture 0 beside which there is an unlike one.");
    Probehall x = laid("0".repeat(400) + "1".repeat(400), 0, 400, 1, 400);
    CHECK.same("the last sample", x.differs(0), 399);
    CHECK.same("the last but one", x.differs(1) + " " + x.differs(2), "398 397");
    CHECK.same("the first sample", x.differs(399), 0);
    Probehall turned = laid("0".repeat(400) + "1".repeat(400), 1, 400, 0, 400);
    CHECK.same("the last sample of the other", turned.differs(0) + " " + turned.differs(-399),
        "399 399");
    Probehall ends = laid("1" + "0".repeat(398) + "1", 0, 400, 0, 400);
    CHECK.same("ends beside others", ends.differs(1) + " " + ends.differs(-1), "0 1");
    Probehall one = laid("10", 0, 1, 1, 1);
    CHECK.same("one and one", one.differs(0), 0);
  }

  private static void unlikeless() {
    CHECK.says("if there is none");
    for (int offset : new int[] {0, 1, -1, 398, -398, 399, -399}) {
      CHECK.refused("all alike at " + offset, NoSuchElementException.class, y -> {
        y.capture(0, 0, 1, 400);
        y.capture(1, 0, 1, 400);
      }, y -> y.differs(offset));
      CHECK.refused("no samples at " + offset, NoSuchElementException.class, Look::emptyScene,
          y -> y.differs(offset));
      CHECK.refused("none in the capture 1 at " + offset, NoSuchElementException.class,
          y -> y.capture(0, 0, 1, 400), y -> y.differs(offset));
      CHECK.refused("none in the capture 0 at " + offset, NoSuchElementException.class,
          y -> y.capture(1, 0, 1, 400), y -> y.differs(offset));
    }
    CHECK.refused("unlike ones that are not beside each other", NoSuchElementException.class, y -> {
      Look.draw(y, 2, "10");
      y.capture(0, 0, 1, 2);
      y.capture(1, 1, 1, 1);
    }, y -> y.differs(-1));
    CHECK.refused("unlike ones, none beside", NoSuchElementException.class, y -> {
      Look.draw(y, 2, "10");
      y.capture(0, 0, 1, 1);
      y.capture(1, 1, 1, 1);
    }, y -> y.differs(1));
  }

  private static void bounds() {
    CHECK.says("the bound, 0 to 99");
    String late = "0".repeat(299) + "10";
    int[] sizes = {1, 2, 50, 98, 99};
    for (int size : sizes) {
      Probehall above = laid(late, 299, 1, 299 - size, size + 1);
      CHECK.same(size + " above, by its bound", above.best(size), size);
      CHECK.same(size + " above, by 99", above.best(99), size);
      CHECK.same(size + " above, by one less", above.best(size - 1), 0);
      Probehall below = laid(late, 299 - size, size + 1, 299, 1);
      CHECK.same(size + " below, by its bound", below.best(size), -size);
      CHECK.same(size + " below, by 99", below.best(99), -size);
      CHECK.same(size + " below, by one less", below.best(size - 1), 0);
    }
    Probehall far = laid(late, 299, 1, 199, 101);
    CHECK.same("100 above", far.best(99), 0);
    CHECK.same("it is there", far.alike(100), 1);
    Probehall farBelow = laid(late, 199, 101, 299, 1);
    CHECK.same("100 below", farBelow.best(99), 0);
    CHECK.same("it is there, too", farBelow.alike(-100), 1);
  }

  private static void bestOfLikeOnes() {
    CHECK.says("The best offset, within a bound, is that at which the most samples are alike, of like "
        + "ones that of the least size, below 0 first.");
    CHECK.same("all alike", laid("0", 0, 400, 0, 400).best(99), 0);
    CHECK.same("all alike, one and 400", laid("0", 0, 1, 0, 400).best(99), 0);
    CHECK.same("all alike, 400 and one", laid("0", 0, 400, 0, 1).best(99), 0);
    CHECK.same("none alike", laid("0".repeat(200) + "1".repeat(400), 0, 200, 200, 400).best(99), 0);
    CHECK.same("one alike at -1 alone", laid("010", 0, 3, 1, 1).best(9), -1);
    CHECK.same("one alike at 1 alone", laid("1010", 1, 1, 2, 2).best(9), 1);
    CHECK.same("as many alike at -1 and at 1", laid("01010101", 0, 7, 1, 7).best(9), -1);
    Probehall x = laid("00100" + "11011", 0, 5, 5, 5);
    CHECK.same("each alike of 00100 and 11011", alikes(x, 4), "0 0 2 2 0 2 2 0 0");
    CHECK.same("two at each side", x.best(4), -1);
    CHECK.same("each alike of 100 and 001", alikes(laid("100001", 0, 3, 3, 3), 2), "1 2 1 0 1");
    String[] parts = {"000", "001", "010", "011", "100", "101", "110", "111"};
    for (String one : parts) {
      for (String other : parts) {
        Probehall y = laid(one + other, 0, 3, 3, 3);
        CHECK.same("the best of " + one + " and " + other, y.best(9), bestOf(one, other, 9));
        CHECK.same("by a bound of 1", y.best(1), bestOf(one, other, 1));
      }
    }
  }

  private static String alikes(Probehall x, int bound) {
    StringBuilder text = new StringBuilder();
    for (int offset = -bound; offset <= bound; offset++) {
      text.append(offset == -bound ? "" : " ").append(x.alike(offset));
    }
    return text.toString();
  }

  private static int alikeOf(String one, String other, int offset) {
    int many = 0;
    for (int i = 0; i < one.length(); i++) {
      int beside = i + offset;
      boolean isThere = beside >= 0 && beside < other.length();
      many += isThere && one.charAt(i) == other.charAt(beside) ? 1 : 0;
    }
    return many;
  }

  /** The first of the offsets 0, -1, 1, -2, 2 and so on at which the most are alike. */
  private static int bestOf(String one, String other, int bound) {
    int best = 0;
    for (int i = 1; i <= 2 * bound; i++) {
      int offset = i % 2 == 1 ? -(i + 1) / 2 : i / 2;
      best = alikeOf(one, other, offset) > alikeOf(one, other, best) ? offset : best;
    }
    return best;
  }

  private static void bestRefused() {
    CHECK.says("if a capture has no samples");
    for (int bound : new int[] {0, 99}) {
      CHECK.refused("no samples", UnsupportedOperationException.class, Look::emptyScene,
          y -> y.best(bound));
      CHECK.refused("none in the capture 0", UnsupportedOperationException.class,
          y -> y.capture(1, 0, 1, 400), y -> y.best(bound));
      CHECK.refused("none in the capture 1", UnsupportedOperationException.class,
          y -> y.capture(0, 0, 1, 400), y -> y.best(bound));
      CHECK.same("one in each", laid("0", 0, 1, 0, 1).best(bound), 0);
    }
    for (int wrong : new int[] {-1, 100, Integer.MIN_VALUE, Integer.MAX_VALUE}) {
      CHECK.badNumber("a bound of " + wrong, y -> y.best(wrong));
      CHECK.refused("a bound of " + wrong + " of no samples", IllegalArgumentException.class,
          Look::emptyScene, y -> y.best(wrong));
    }
  }

  private static void flips() {
    CHECK.says("Returns how many flips there are on all wires.");
    Probehall x = new Probehall();
    for (int wire = 0; wire < 4; wire++) {
      x.flip(wire, 0);
      x.flip(wire, 9999);
      CHECK.same("flips of the wires to " + wire, x.flips(), 2 * wire + 2);
    }
    for (int wire = 0; wire < 4; wire++) {
      x.flip(wire, 0);
      x.flip(wire, 9999);
      CHECK.same("flips of the wires from " + wire, x.flips(), 6 - 2 * wire);
    }
  }

  private static void checksumOfNothing() {
    CHECK.says("Returns 7 at first");
    CHECK.same("nothing", new Probehall().checksum(), 7L);
    Probehall x = new Probehall();
    x.idle(0, true);
    x.flip(1, 9);
    Full.steps(x);
    x.drift(9);
    x.decodeTwo(0, 0, 1);
    CHECK.same("no samples and no notes", x.checksum(), 7L);
    x.capture(1, 0, 1, 1);
    CHECK.same("one sample of the capture 1", x.checksum(), 7L * 31 + 1);
    x.capture(0, 9, 1, 1);
    CHECK.same("one sample of each", x.checksum(), (7L * 31 + 3) * 31 + 1);
  }

  private static void checksumOfAll() {
    CHECK.says("for each sample of the capture 0, then of 1, 31 times itself plus its levels, then for "
        + "each note 31 times itself plus the letter of its kind as a number, then 31 times itself "
        + "plus its value");
    for (int many : new int[] {0, 1, 2, 200, 201}) {
      Probehall x = new Probehall();
      Full.notes(x, many);
      x.capture(1, 1, 1, 400);
      CHECK.same("800 samples and " + many + " notes", x.checksum(), sumOf(x));
    }
    Probehall bytes = new Probehall();
    bytes.idle(1, true);
    bytes.idle(2, true);
    bytes.twoWires(1, 2, 127, true, 15, 255, 2, 1);
    bytes.capture(0, 0, 1, 100);
    bytes.decodeTwo(0, 1, 2);
    CHECK.same("bytes of the greatest values", bytes.checksum(), sumOf(bytes));
  }

  private static long sumOf(Probehall x) {
    long sum = 7;
    for (int capture = 0; capture < 2; capture++) {
      for (int i = 0; i < x.samples(capture); i++) {
        sum = 31 * sum + x.sample(capture, i);
      }
    }
    for (int i = 0; i < x.notes(); i++) {
      sum = 31 * (31 * sum + x.kind(i)) + x.value(i);
    }
    return sum;
  }

  private static void highShare() {
    CHECK.says("Returns their number divided by that of all, both converted to float.");
    shareIs("0", 0f);
    shareIs("1", 1f);
    shareIs("0".repeat(400), 0f);
    shareIs("1".repeat(400), 1f);
    shareIs("1" + "0".repeat(399), 0.0025f);
    shareIs("0".repeat(399) + "1", 0.0025f);
    shareIs("1".repeat(399) + "0", 0.9975f);
    shareIs("1" + "0".repeat(398), 1f / 399f);
    shareIs("110", 0.6666667f);
    for (int wire = 0; wire < 4; wire++) {
      int line = wire;
      CHECK.refused("the share of no samples", NoSuchElementException.class,
          y -> y.capture(0, 0, 1, 9), y -> y.highShare(1, line));
    }
  }

  private static void shareIs(String levels, float due) {
    CHECK.same("the share of " + levels, Look.drawn(levels).highShare(0, 0), due);
  }

  private static void meanRun() {
    CHECK.says("Returns all samples divided by the number of runs, both converted to double.");
    meanIs("0", 1.0);
    meanIs("1", 1.0);
    meanIs("01", 1.0);
    meanIs("0".repeat(400), 400.0);
    meanIs("1".repeat(399), 399.0);
    meanIs("0".repeat(399) + "1", 200.0);
    meanIs("1" + "0".repeat(398) + "1", 400.0 / 3.0);
    meanIs("01".repeat(150), 1.0);
    Probehall x = new Probehall();
    Full.changes(x, 300);
    CHECK.same("the mean of 301 runs", x.meanRun(0, 1), 400.0 / 301.0);
    for (int wire = 0; wire < 4; wire++) {
      int line = wire;
      CHECK.refused("the mean of no samples", NoSuchElementException.class,
          y -> y.capture(0, 0, 1, 9), y -> y.meanRun(1, line));
    }
  }

  private static void meanIs(String levels, double due) {
    CHECK.same("the mean of " + levels, Look.drawn(levels).meanRun(0, 0), due);
  }

  private static void isSound() {
    CHECK.says("Tells whether runs of each wire sum up to all samples; each change is in a block that "
        + "is 'x', of each degree; and notes are in order, none beginning behind its end.");
    CHECK.same("nothing", new Probehall().isSound(), true);
    Probehall x = new Probehall();
    for (int many : new int[] {1, 2, 255, 256, 257, 399, 400}) {
      x.flip(0, many - 1);
      x.capture(0, 0, 1, many);
      x.capture(1, 9, 1, many);
      CHECK.same(many + " samples", x.isSound(), true);
    }
    for (int many : new int[] {1, 199, 200, 201, 300}) {
      Probehall y = new Probehall();
      Full.notes(y, many);
      CHECK.same(many + " starts and ends", y.isSound(), true);
    }
    Probehall full = new Probehall();
    Full.allWires(full);
    for (int from = 0; from <= 2800; from += 400) {
      full.capture(0, from, 1, 400);
      full.capture(1, from, 3, 400);
      full.decodeTwo(0, 1, 0);
      CHECK.same("full wires, two", full.isSound(), true);
      full.decodeFour(1, 1, 0, 3, 2);
      CHECK.same("full wires, four", full.isSound(), true);
      full.decodeSerial(0, 2, 11, 'o');
      CHECK.same("full wires, serial", full.isSound(), true);
    }
  }
}
