import java.util.ArrayList;
import java.util.List;

/** The bounds of promises 7, 9 and 10: what is sent, by the drift, and up to the last tick and flip. */
public final class SenderBoundsTest {
  private static final Check CHECK = new Check("SenderBoundsTest");

  private SenderBoundsTest() {
  }

  public static void main(String[] args) {
    driftIsCut();
    driftOfEnds();
    levelsThatIdle();
    serialValues();
    serialBits();
    serialParities();
    serialLastTick();
    serialLastFlip();
    twoWiresValues();
    twoWiresHalves();
    twoWiresLastTick();
    twoWiresLastFlip();
    flipsAtOneTick();
    fourWiresValues();
    fourWiresHalves();
    fourWiresLastTick();
    fourWiresLastFlip();
    CHECK.finish();
  }

  /** The ticks, counted from one on, at which a wire changes. */
  private static String changes(Probehall x, int wire, int from, int many) {
    List<Integer> ticks = new ArrayList<>();
    for (int i = 0; i < many; i++) {
      boolean before = from + i > 0 && x.level(wire, from + i - 1);
      if (x.level(wire, from + i) != before) {
        ticks.add(i);
      }
    }
    return ticks.toString();
  }

  /** Where a byte changes a wire that changes at each of its bits. */
  private static String bitsOf(int drift, int bit, int from, int many) {
    Probehall x = new Probehall();
    x.drift(drift);
    x.serial(0, 0x55, 100, bit, 'n');
    return changes(x, 0, 100 + from, many);
  }

  private static void driftIsCut() {
    CHECK.says("comes by the drift, -50 to 50 thousandths, 0 at first, of this while, cut toward 0, "
        + "later");
    CHECK.same("19 ticks of 50", bitsOf(50, 19, 0, 60), "[0, 19, 39, 59]");
    CHECK.same("20 ticks of 50", bitsOf(50, 20, 0, 60), "[0, 21, 42]");
    CHECK.same("19 ticks of -50", bitsOf(-50, 19, 0, 60), "[0, 19, 37, 55]");
    CHECK.same("20 ticks of -50", bitsOf(-50, 20, 0, 60), "[0, 19, 38, 57]");
    CHECK.same("399 and 450 ticks of 2", bitsOf(2, 50, 340, 130), "[10, 60, 110]");
    CHECK.same("300 and 350 ticks of 3", bitsOf(3, 50, 290, 80), "[10, 61]");
    CHECK.same("300 and 350 ticks of -3", bitsOf(-3, 50, 290, 80), "[10, 59]");
    CHECK.same("333 ticks of 3", bitsOf(3, 37, 320, 30), "[13]");
    CHECK.same("49 and 98 ticks of 10", bitsOf(10, 49, 40, 70), "[9, 58]");
    CHECK.same("50 and 100 ticks of 10", bitsOf(10, 50, 40, 70), "[10, 61]");
    CHECK.same("50 and 100 ticks of -10", bitsOf(-10, 50, 40, 70), "[10, 59]");
    CHECK.same("a beginning does not drift", bitsOf(50, 2, 0, 3), "[0, 2]");
    Probehall x = new Probehall();
    x.serial(0, 0x55, 100, 20, 'n');
    x.drift(50);
    CHECK.same("what was sent ahead of a drift stays", changes(x, 0, 100, 60), "[0, 20, 40]");
  }

  private static int serialEnd(int drift, int bit, char parity) {
    Probehall x = new Probehall();
    x.drift(drift);
    return x.serial(1, 99, 7, bit, parity) - 7;
  }

  private static int twoEnd(int drift, int half) {
    Probehall x = new Probehall();
    x.drift(drift);
    return x.twoWires(1, 2, 99, false, 9, 99, 7, half) - 7;
  }

  private static int fourEnd(int drift, int half) {
    Probehall x = new Probehall();
    x.drift(drift);
    return x.fourWires(1, 2, 3, 99, 7, half, 2) - 7;
  }

  private static void driftOfEnds() {
    CHECK.says("Returns the tick at which it ends, by the drift.");
    int[] serial = {-50, 475, -2, 499, -1, 500, 0, 500, 1, 500, 2, 501, 3, 501, 4, 502, 50, 525};
    int[] parity = {-50, 523, -2, 549, -1, 550, 0, 550, 1, 550, 2, 551, 3, 551, 4, 552, 50, 577};
    int[] two = {-50, 2708, -20, 2793, -19, 2796, -1, 2848, 0, 2850, 1, 2852, 19, 2904, 20, 2907,
        50, 2992};
    int[] four = {-50, 808, -20, 833, -19, 834, -1, 850, 0, 850, 1, 850, 2, 851, 20, 867, 21, 867,
        50, 892};
    for (int i = 0; i < serial.length; i += 2) {
      CHECK.same("end of a byte, " + serial[i], serialEnd(serial[i], 50, 'n'), serial[i + 1]);
      CHECK.same("end with parity, " + parity[i], serialEnd(parity[i], 50, 'o'), parity[i + 1]);
      CHECK.same("end of two wires, " + two[i], twoEnd(two[i], 50), two[i + 1]);
    }
    for (int i = 0; i < four.length; i += 2) {
      CHECK.same("end of four wires, " + four[i], fourEnd(four[i], 50), four[i + 1]);
    }
    CHECK.same("ends of the least bit", serialEnd(49, 2, 'n') + " " + serialEnd(50, 2, 'n') + " "
        + serialEnd(-49, 2, 'n') + " " + serialEnd(-50, 2, 'n') + " " + serialEnd(50, 2, 'e'),
        "20 21 20 19 23");
    CHECK.same("ends of the least half", twoEnd(50, 1) + " " + twoEnd(-50, 1) + " " + twoEnd(0, 1)
        + " " + fourEnd(50, 1) + " " + fourEnd(-50, 1) + " " + fourEnd(0, 1), "59 55 57 17 17 17");
  }

  private static void levelsThatIdle() {
    CHECK.says("beginning with the level that idles, whatever the wire has");
    Probehall low = new Probehall();
    low.serial(0, 255, 10, 3, 'n');
    CHECK.same("a byte on a low wire", changes(low, 0, 0, 60), "[10, 13]");
    low.serial(0, 0, 20, 3, 'n');
    CHECK.same("another one", changes(low, 0, 0, 60), "[10, 13, 20, 47]");
    low.serial(0, 255, 17, 3, 'n');
    CHECK.same("one that has a flip with another", changes(low, 0, 0, 60), "[10, 13, 17, 47]");
    low.twoWires(1, 2, 0, false, 0, 0, 10, 1);
    CHECK.same("two low wires, data", changes(low, 2, 0, 90), "[10, 67]");
    CHECK.same("two low wires, clock", changes(low, 1, 8, 6), "[3, 4, 5]");
    Probehall four = new Probehall();
    four.fourWires(0, 1, 2, 0, 10, 1, 0);
    CHECK.same("four low wires, select", changes(four, 2, 0, 50), "[10, 27]");
    four.fourWires(0, 1, 2, 0, 30, 1, 2);
    CHECK.same("a clock that idles high, on a low wire", changes(four, 0, 30, 20),
        "[1, 2, 3, 4, 5, 6, 7, 8, 9, 10, 11, 12, 13, 14, 15, 16]");
  }

  private static String sent(int value, char parity) {
    Probehall x = new Probehall();
    x.idle(0, true);
    x.serial(0, value, 1, 2, parity);
    StringBuilder bits = new StringBuilder();
    for (int i = 0; i < 13; i++) {
      bits.append(x.level(0, 2 * i) ? '1' : '0');
    }
    return bits.toString();
  }

  private static void serialValues() {
    CHECK.says("low, the 8 bits of its value, the lowest first");
    CHECK.same("the value 0", sent(0, 'n'), "1" + "0" + "00000000" + "1" + "11");
    CHECK.same("the value 1", sent(1, 'n'), "1" + "0" + "10000000" + "1" + "11");
    CHECK.same("the value 128", sent(128, 'n'), "1" + "0" + "00000001" + "1" + "11");
    CHECK.same("the value 254", sent(254, 'n'), "1" + "0" + "01111111" + "1" + "11");
    CHECK.same("the value 255", sent(255, 'n'), "1" + "0" + "11111111" + "1" + "11");
    CHECK.badNumber("the value -1", x -> x.serial(0, -1, 10, 6, 'n'));
    CHECK.badNumber("the value 256", x -> x.serial(0, 256, 10, 6, 'n'));
  }

  private static void serialParities() {
    CHECK.says("so that the highs of value and parity are even or odd in number");
    CHECK.same("none, even", sent(0, 'e'), "1" + "0" + "00000000" + "0" + "1" + "1");
    CHECK.same("none, odd", sent(0, 'o'), "1" + "0" + "00000000" + "1" + "1" + "1");
    CHECK.same("one, even", sent(16, 'e'), "1" + "0" + "00001000" + "1" + "1" + "1");
    CHECK.same("one, odd", sent(16, 'o'), "1" + "0" + "00001000" + "0" + "1" + "1");
    CHECK.same("seven, even", sent(127, 'e'), "1" + "0" + "11111110" + "1" + "1" + "1");
    CHECK.same("seven, odd", sent(127, 'o'), "1" + "0" + "11111110" + "0" + "1" + "1");
    CHECK.same("eight, even", sent(255, 'e'), "1" + "0" + "11111111" + "0" + "1" + "1");
    CHECK.same("eight, odd", sent(255, 'o'), "1" + "0" + "11111111" + "1" + "1" + "1");
    for (char wrong : new char[] {'d', 'f', 'm', 'p', 'N', 'E', 'O', '-', 0, 0xffff}) {
      CHECK.badNumber("the parity " + (int) wrong, x -> x.serial(0, 75, 10, 6, wrong));
      CHECK.badNumber("decoding by the parity " + (int) wrong,
          x -> x.decodeSerial(0, 0, 30, wrong));
    }
  }

  private static void serialBits() {
    CHECK.says("it has bits of 2 to 50 ticks, one behind the other");
    for (int bit : new int[] {2, 3, 49, 50}) {
      Probehall x = new Probehall();
      CHECK.same("the end of bits of " + bit, x.serial(0, 255, 9, bit, 'n'), 9 + 10 * bit);
      CHECK.same("the first of them", changes(x, 0, 9, 2 * bit), "[0, " + bit + "]");
      x.serial(0, 0, 1009, bit, 'n');
      CHECK.same("the last of them", changes(x, 0, 1009, 9 * bit + 9), "[0, " + 9 * bit + "]");
    }
    CHECK.badNumber("bits of 1", x -> x.serial(0, 75, 10, 1, 'n'));
    CHECK.badNumber("bits of 51", x -> x.serial(0, 75, 10, 51, 'n'));
  }

  /** The last tick at which a byte may begin, and that the one behind it is refused. */
  private static void serialUpTo(int drift, int value, int bit, char parity, int last, int end) {
    Probehall x = new Probehall();
    x.drift(drift);
    String what = value + " by bits of " + bit + ", parity " + parity + ", drift " + drift;
    CHECK.same("the last " + what, x.serial(0, value, last, bit, parity), end);
    CHECK.same("has a flip at 9999", x.flip(0, 9999) % 2, 1);
    CHECK.refused("one too late of " + what, IllegalStateException.class, y -> y.drift(drift),
        y -> y.serial(0, value, last + 1, bit, parity));
  }

  private static void serialLastTick() {
    CHECK.says("It ends behind that, perhaps behind the tick 9999, where no flip is.");
    CHECK.says("if a flip would be behind 9999");
    serialUpTo(0, 255, 2, 'n', 9997, 10017);
    serialUpTo(0, 0, 2, 'n', 9981, 10001);
    serialUpTo(0, 0, 2, 'e', 9979, 10001);
    serialUpTo(0, 0, 2, 'o', 9981, 10003);
    serialUpTo(0, 255, 50, 'n', 9949, 10449);
    serialUpTo(0, 255, 50, 'e', 9499, 10049);
    serialUpTo(0, 255, 50, 'o', 9949, 10499);
    serialUpTo(50, 0, 50, 'n', 9527, 10052);
    serialUpTo(-50, 0, 50, 'n', 9571, 10046);
    serialUpTo(50, 255, 20, 'n', 9978, 10188);
    serialUpTo(50, 255, 19, 'n', 9980, 10179);
    serialUpTo(-50, 255, 20, 'n', 9980, 10170);
    Probehall x = new Probehall();
    CHECK.same("an end at 9999", x.serial(3, 0, 9979, 2, 'n'), 9999);
    CHECK.same("a byte at the tick 0", x.serial(2, 0, 0, 2, 'n'), 20);
    CHECK.same("its levels", Look.levels(x, 2, 0, 20), "1".repeat(18) + "00");
    CHECK.refused("a byte at the tick 9999", IllegalStateException.class, Look::busyScene,
        y -> y.serial(2, 255, 9999, 2, 'n'));
    CHECK.badNumber("a byte at the tick 10000", y -> y.serial(2, 255, 10000, 2, 'n'));
    CHECK.badNumber("a byte at the tick -1", y -> y.serial(2, 255, -1, 2, 'n'));
  }

  private static void serialLastFlip() {
    CHECK.says("or there would be more than 300 of a wire");
    Probehall x = new Probehall();
    Full.flips(x, 1, 298);
    x.serial(1, 255, 5000, 9, 'n');
    CHECK.same("two flips, up to 300", x.flips(), 300);
    CHECK.refused("two flips, up to 301", IllegalStateException.class, y -> Full.flips(y, 1, 299),
        y -> y.serial(1, 255, 5000, 9, 'n'));
    Probehall ten = new Probehall();
    Full.flips(ten, 1, 290);
    ten.serial(1, 0x55, 5000, 9, 'n');
    CHECK.same("ten flips, up to 300", ten.flips(), 300);
    CHECK.refused("ten flips, up to 301", IllegalStateException.class, y -> Full.flips(y, 1, 291),
        y -> y.serial(1, 0x55, 5000, 9, 'n'));
    Probehall one = new Probehall();
    Full.flips(one, 1, 300);
    one.serial(1, 255, 600, 9, 'n');
    CHECK.same("a full wire, one flip there and one not", one.flips(), 300);
    one.serial(1, 255, 584, 4, 'n');
    CHECK.same("a full wire, both there", one.flips(), 298);
    CHECK.refused("a full wire, both not there", IllegalStateException.class,
        y -> Full.flips(y, 1, 300), y -> y.serial(1, 255, 602, 9, 'n'));
    Probehall three = new Probehall();
    Full.flips(three, 1, 298);
    three.serial(1, 15, 597, 9, 'n');
    CHECK.same("one flip there and three not, up to 300", three.flips(), 300);
    CHECK.refused("one flip there and three not, up to 301", IllegalStateException.class,
        y -> Full.flips(y, 1, 299), y -> y.serial(1, 15, 600, 9, 'n'));
    Probehall other = new Probehall();
    Full.flips(other, 1, 300);
    CHECK.same("another wire is not full", other.serial(0, 0x55, 600, 9, 'n'), 690);
  }

  /** The levels of data in the middle of each bit that is sent over two wires. */
  private static String sentTwo(int address, boolean reads, int register, int value, boolean first,
      boolean others) {
    Probehall x = new Probehall();
    x.idle(2, true);
    x.idle(3, true);
    x.answers(first, others);
    x.twoWires(2, 3, address, reads, register, value, 5, 3);
    StringBuilder bits = new StringBuilder();
    for (int n = 0; n < 27; n++) {
      bits.append(n % 9 == 0 && n > 0 ? " " : "");
      bits.append(x.level(3, 5 + 3 * (2 * n + 2)) ? '1' : '0');
    }
    return bits.toString();
  }

  private static void twoWiresValues() {
    CHECK.says("an address, 0 to 127, times 2, and 1 more if it reads; a register, 0 to 15; and a "
        + "value");
    CHECK.same("the least", sentTwo(0, false, 0, 0, true, true), "000000000 000000000 000000000");
    CHECK.same("the least that reads", sentTwo(0, true, 0, 0, true, true),
        "000000010 000000000 000000000");
    CHECK.same("the greatest", sentTwo(127, true, 15, 255, true, true),
        "111111110 000011110 111111110");
    CHECK.same("the greatest that does not read", sentTwo(127, false, 15, 255, true, true),
        "111111100 000011110 111111110");
    CHECK.same("others", sentTwo(64, false, 8, 128, true, true), "100000000 000010000 100000000");
    CHECK.says("behind each its answer, 0 if it is given, else 1");
    CHECK.same("none given", sentTwo(0, false, 0, 0, false, false),
        "000000001 000000001 000000001");
    CHECK.same("the address's given", sentTwo(1, false, 1, 1, true, false),
        "000000100 000000011 000000011");
    CHECK.same("the others given", sentTwo(1, true, 1, 1, false, true),
        "000000111 000000010 000000010");
    CHECK.badNumber("the address -1", x -> x.twoWires(0, 1, -1, false, 3, 129, 4, 2));
    CHECK.badNumber("the address 128", x -> x.twoWires(0, 1, 128, false, 3, 129, 4, 2));
    CHECK.badNumber("the register -1", x -> x.twoWires(0, 1, 5, false, -1, 129, 4, 2));
    CHECK.badNumber("the register 16", x -> x.twoWires(0, 1, 5, false, 16, 129, 4, 2));
    CHECK.badNumber("the value -1", x -> x.twoWires(0, 1, 5, false, 3, -1, 4, 2));
    CHECK.badNumber("the value 256", x -> x.twoWires(0, 1, 5, false, 3, 256, 4, 2));
  }

  private static void twoWiresHalves() {
    CHECK.says("idle high, with a half, 1 to 50 ticks");
    for (int half : new int[] {1, 2, 49, 50}) {
      Probehall x = new Probehall();
      CHECK.same("the end of halves of " + half, x.twoWires(1, 3, 64, false, 0, 0, 30, half),
          30 + 57 * half);
      CHECK.same("the clock's first ones", changes(x, 1, 30, 4 * half),
          "[" + half + ", " + 2 * half + ", " + 3 * half + "]");
      CHECK.same("the clock's last ones", changes(x, 1, 30 + 54 * half, 4 * half),
          "[0, " + half + ", " + 2 * half + "]");
      CHECK.same("data's first ones", changes(x, 3, 30, 4 * half),
          "[0, " + half + ", " + 3 * half + "]");
      CHECK.same("data's last one", changes(x, 3, 30 + 54 * half, 4 * half), "[" + 3 * half + "]");
    }
    CHECK.badNumber("halves of 0", x -> x.twoWires(1, 3, 5, false, 3, 129, 30, 0));
    CHECK.badNumber("halves of 51", x -> x.twoWires(1, 3, 5, false, 3, 129, 30, 51));
  }

  private static void twoWiresUpTo(int drift, int half, int last) {
    Probehall x = new Probehall();
    x.drift(drift);
    String what = "two wires by halves of " + half + ", drift " + drift;
    CHECK.same("the last " + what, x.twoWires(0, 1, 0, false, 0, 0, last, half), 9999);
    CHECK.same("has flips of data at both ends", x.flip(1, last) + x.flip(1, 9999), 1);
    CHECK.refused("one too late of " + what, IllegalStateException.class, y -> y.drift(drift),
        y -> y.twoWires(0, 1, 0, false, 0, 0, last + 1, half));
  }

  private static void twoWiresLastTick() {
    CHECK.says("if a flip would be behind 9999");
    twoWiresUpTo(0, 1, 9942);
    twoWiresUpTo(50, 1, 9940);
    twoWiresUpTo(-50, 1, 9944);
    twoWiresUpTo(0, 50, 7149);
    twoWiresUpTo(50, 50, 7007);
    twoWiresUpTo(-50, 50, 7291);
    Probehall x = new Probehall();
    CHECK.same("two wires at the tick 0", x.twoWires(0, 1, 0, false, 0, 0, 0, 1), 57);
    CHECK.same("data's level at the tick 0", x.level(1, 0), true);
    CHECK.refused("two wires at the tick 9999", IllegalStateException.class, Look::busyScene,
        y -> y.twoWires(0, 1, 0, false, 0, 0, 9999, 1));
    CHECK.badNumber("two wires at the tick 10000", y -> y.twoWires(0, 1, 0, false, 0, 0, 10000, 1));
    CHECK.badNumber("two wires at the tick -1", y -> y.twoWires(0, 1, 0, false, 0, 0, -1, 1));
  }

  private static void twoWiresLastFlip() {
    CHECK.says("or there would be more than 300 of a wire");
    Probehall clock = new Probehall();
    Full.flips(clock, 2, 244);
    clock.twoWires(2, 0, 0, false, 0, 0, 5000, 1);
    CHECK.same("a clock up to 300", clock.flips(), 300 + 2);
    CHECK.refused("a clock up to 301", IllegalStateException.class, y -> Full.flips(y, 2, 245),
        y -> y.twoWires(2, 0, 0, false, 0, 0, 5000, 1));
    Probehall data = new Probehall();
    Full.flips(data, 0, 298);
    data.twoWires(2, 0, 0, false, 0, 0, 5000, 1);
    CHECK.same("data up to 300", data.flips(), 300 + 56);
    CHECK.refused("data up to 301", IllegalStateException.class, y -> Full.flips(y, 0, 299),
        y -> y.twoWires(2, 0, 0, false, 0, 0, 5000, 1));
    Probehall unanswered = new Probehall();
    unanswered.answers(false, false);
    Full.flips(unanswered, 0, 292);
    unanswered.twoWires(2, 0, 0, false, 0, 0, 5000, 1);
    CHECK.same("data without answers up to 300", unanswered.flips(), 300 + 56);
    CHECK.refused("data without answers up to 301", IllegalStateException.class, y -> {
      y.answers(false, false);
      Full.flips(y, 0, 293);
    }, y -> y.twoWires(2, 0, 0, false, 0, 0, 5000, 1));
    Probehall full = new Probehall();
    Full.flips(full, 0, 300);
    full.twoWires(2, 0, 0, false, 0, 0, 600, 1);
    CHECK.same("full data, one flip there and one not", full.flips(), 300 + 56);
    full.twoWires(2, 0, 0, false, 0, 0, 487, 1);
    CHECK.same("full data, one not there and one", full.flips(), 300 + 56 + 56);
  }

  /** With a half of 1, a clock that is ahead of its time may be brought to change twice at a tick. */
  private static void flipsAtOneTick() {
    CHECK.says("two at one tick are none");
    Probehall x = new Probehall();
    x.drift(-50);
    x.twoWires(0, 1, 0, false, 0, 0, 100, 1);
    CHECK.same("a clock that would change twice at 119", changes(x, 0, 116, 8),
        "[0, 1, 2, 4, 5, 6, 7]");
    CHECK.same("a clock that would change twice at 138", changes(x, 0, 135, 8),
        "[0, 1, 2, 4, 5, 6, 7]");
    CHECK.same("its flips", x.flip(0, 9000), 56 - 4 + 1);
    Probehall slow = new Probehall();
    slow.drift(50);
    slow.twoWires(0, 1, 0, false, 0, 0, 100, 1);
    CHECK.same("a clock that is behind its time", changes(slow, 0, 116, 8), "[0, 1, 2, 3, 5, 6, 7]");
    CHECK.same("its flips", slow.flip(0, 9000), 56 + 1);
    Probehall full = new Probehall();
    Full.flips(full, 0, 248);
    full.drift(-50);
    full.twoWires(0, 1, 0, false, 0, 0, 5000, 1);
    CHECK.same("such a clock up to 300", full.flips(), 300 + 2);
    CHECK.refused("such a clock up to 301", IllegalStateException.class, y -> {
      Full.flips(y, 0, 249);
      y.drift(-50);
    }, y -> y.twoWires(0, 1, 0, false, 0, 0, 5000, 1));
  }

  private static String sentFour(int value, int mode) {
    Probehall x = new Probehall();
    x.idle(2, true);
    x.fourWires(0, 1, 2, value, 5, 2, mode);
    StringBuilder bits = new StringBuilder();
    for (int half = 0; half < 18; half++) {
      bits.append(x.level(1, 5 + 2 * half) ? '1' : '0');
    }
    return bits.toString();
  }

  private static void fourWiresValues() {
    CHECK.says("data has the bit 2k halves behind it in the modes 0 and 2, 2k + 1 halves in 1 and 3");
    for (int mode = 0; mode < 4; mode++) {
      String lead = mode % 2 == 0 ? "" : "0";
      String end = mode % 2 == 0 ? "0" : "";
      CHECK.same("the value 0", sentFour(0, mode), "0".repeat(18));
      CHECK.same("the value 255", sentFour(255, mode),
          lead + "1".repeat(mode % 2 == 0 ? 17 : 16) + "0");
      CHECK.same("the value 128", sentFour(128, mode), lead + "11" + "0".repeat(14) + "0" + end);
      CHECK.same("the value 1", sentFour(1, mode),
          lead + "0".repeat(14) + (mode % 2 == 0 ? "111" : "11") + "0");
    }
    CHECK.badNumber("the value -1", x -> x.fourWires(0, 1, 2, -1, 9, 3, 0));
    CHECK.badNumber("the value 256", x -> x.fourWires(0, 1, 2, 256, 9, 3, 0));
    CHECK.says("the clock low in the modes 0 and 1, high in 2 and 3");
    for (int mode = 0; mode < 4; mode++) {
      Probehall x = new Probehall();
      x.idle(3, mode >= 2);
      x.fourWires(3, 1, 2, 0, 5, 2, mode);
      CHECK.same("the clock in the mode " + mode, Look.levels(x, 3, 5, 6),
          mode < 2 ? "001100" : "110011");
      CHECK.same("its end", Look.levels(x, 3, 5 + 28, 6), mode < 2 ? "001100" : "110011");
    }
    CHECK.badNumber("the mode -1", x -> x.fourWires(0, 1, 2, 178, 9, 3, -1));
    CHECK.badNumber("the mode 4", x -> x.fourWires(0, 1, 2, 178, 9, 3, 4));
  }

  private static void fourWiresHalves() {
    CHECK.says("Select rises, and data is low again, 17 halves behind the beginning.");
    for (int half : new int[] {1, 2, 49, 50}) {
      Probehall x = new Probehall();
      CHECK.same("the end of halves of " + half, x.fourWires(0, 1, 2, 255, 30, half, 0),
          30 + 17 * half);
      CHECK.same("select", changes(x, 2, 30, 17 * half + 1), "[0, " + 17 * half + "]");
      CHECK.same("data", changes(x, 1, 30, 17 * half + 1), "[0, " + 17 * half + "]");
      CHECK.same("the clock's first ones", changes(x, 0, 30, 2 * half + 1),
          "[" + half + ", " + 2 * half + "]");
      CHECK.same("the clock's last ones", changes(x, 0, 30 + 15 * half, 3 * half),
          "[0, " + half + "]");
    }
    CHECK.badNumber("halves of 0", x -> x.fourWires(0, 1, 2, 178, 9, 0, 0));
    CHECK.badNumber("halves of 51", x -> x.fourWires(0, 1, 2, 178, 9, 51, 0));
  }

  private static void fourWiresUpTo(int drift, int half, int last) {
    Probehall x = new Probehall();
    x.drift(drift);
    String what = "four wires by halves of " + half + ", drift " + drift;
    CHECK.same("the last " + what, x.fourWires(0, 1, 2, 1, last, half, 1), 9999);
    CHECK.same("has a flip of select at 9999", x.flip(2, 9999), 1);
    CHECK.same("has a flip of data at 9999", x.flip(1, 9999), 1);
    CHECK.refused("one too late of " + what, IllegalStateException.class, y -> y.drift(drift),
        y -> y.fourWires(0, 1, 2, 0, last + 1, half, 1));
  }

  private static void fourWiresLastTick() {
    CHECK.says("if a flip would be behind 9999");
    fourWiresUpTo(0, 1, 9982);
    fourWiresUpTo(50, 1, 9982);
    fourWiresUpTo(50, 2, 9964);
    fourWiresUpTo(-50, 2, 9966);
    fourWiresUpTo(0, 50, 9149);
    fourWiresUpTo(50, 50, 9107);
    fourWiresUpTo(-50, 50, 9191);
    Probehall x = new Probehall();
    CHECK.same("four wires at the tick 0", x.fourWires(0, 1, 2, 128, 0, 1, 0), 17);
    CHECK.same("levels at the tick 0", x.level(0, 0) + " " + x.level(1, 0) + " " + x.level(2, 0),
        "false true true");
    CHECK.refused("four wires at the tick 9999", IllegalStateException.class, Look::busyScene,
        y -> y.fourWires(0, 1, 2, 0, 9999, 1, 0));
    CHECK.badNumber("four wires at the tick 10000", y -> y.fourWires(0, 1, 2, 0, 10000, 1, 0));
    CHECK.badNumber("four wires at the tick -1", y -> y.fourWires(0, 1, 2, 0, -1, 1, 0));
  }

  /** A wire that has so many flips ahead takes a value, and one that has one more does not. */
  private static void fourUpTo(String what, int wire, int value, int ahead, int own) {
    Probehall x = new Probehall();
    Full.flips(x, wire, ahead);
    x.fourWires(3, 1, 0, value, 5000, 1, 0);
    CHECK.same(what + " up to 300", x.flips(), ahead + 16 + 2 + (value == 0 ? 0 : 8));
    CHECK.same("its flips", ahead + own, 300);
    CHECK.refused(what + " up to 301", IllegalStateException.class,
        y -> Full.flips(y, wire, ahead + 1), y -> y.fourWires(3, 1, 0, value, 5000, 1, 0));
  }

  private static void fourWiresLastFlip() {
    CHECK.says("or there would be more than 300 of a wire");
    fourUpTo("a clock", 3, 0, 284, 16);
    fourUpTo("data", 1, 0x55, 292, 8);
    fourUpTo("data", 1, 0xaa, 292, 8);
    fourUpTo("select", 0, 0, 298, 2);
    Probehall none = new Probehall();
    Full.flips(none, 1, 300);
    CHECK.same("full data that does not change", none.fourWires(3, 1, 0, 0, 5000, 1, 0), 5017);
    CHECK.same("its flips", none.flips(), 300 + 16 + 2);
    Probehall full = new Probehall();
    Full.flips(full, 0, 300);
    CHECK.same("a full select, one flip there and one not", full.fourWires(3, 1, 0, 0, 9, 1, 0), 26);
    CHECK.same("its flips", full.flips(), 300 + 16);
  }
}
