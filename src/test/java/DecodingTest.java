import java.util.NoSuchElementException;
import java.util.function.Consumer;

/** Promises 21 to 32: decoders, notes, rates, registers and which value follows which. */
public final class DecodingTest {
  private static final Check CHECK = new Check("DecodingTest");

  private DecodingTest() {
  }

  public static void main(String[] args) {
    decodeSerial();
    decodeSerialByTenths();
    decodeSerialGoesOn();
    decodeSerialFaults();
    decodeSerialRefused();
    decodeTwo();
    decodeTwoInParts();
    decodeTwoSent();
    decodeTwoRefused();
    decodeFour();
    decodeFourShort();
    decodeFourUpToTheLast();
    decodeFourRefused();
    mostNotes();
    notes();
    rate();
    register();
    registersOfUntoldBytes();
    follows();
    CHECK.finish();
  }

  private static String serialOf(String levels, int tenths, char parity) {
    Probehall x = Look.drawn(levels);
    int many = x.decodeSerial(0, 0, tenths, parity);
    CHECK.same("notes of " + levels, x.notes(), many);
    return Look.notes(x);
  }

  private static void serial(String levels, int tenths, char parity, String due) {
    CHECK.same(tenths + " " + parity + " of " + levels, serialOf(levels, tenths, parity), due);
  }

  private static void decodeSerial() {
    serial("1" + "0110100101", 10, 'n', "B1-10=75-");
    serial("1" + "01101001001", 10, 'e', "B1-11=75-");
    serial("1" + "01101001011", 10, 'o', "B1-11=75-");
    serial("111" + "0000000001", 10, 'n', "B3-12=0-");
    serial("1" + "0111111111", 10, 'n', "B1-10=255-");
    serial("1" + "0100000001", 10, 'n', "B1-10=1-");
    serial("1" + "0000000011", 10, 'n', "B1-10=128-");
    serial("0110100101", 10, 'n', "");
    serial("000" + "1" + "0110100101", 10, 'n', "B4-13=75-");
    serial("1", 10, 'n', "");
    Probehall x = new Probehall();
    x.idle(2, true);
    x.serial(2, 200, 10, 6, 'e');
    x.capture(1, 0, 2, 50);
    CHECK.same("another capture and wire", x.decodeSerial(1, 2, 30, 'e'), 1);
    CHECK.same("its note", Look.note(x, 0), "B5-36=200-");
    CHECK.same("a wire without falls", x.decodeSerial(1, 0, 30, 'e'), 0);
    CHECK.same("a capture without samples", x.decodeSerial(0, 2, 30, 'e'), 0);
  }

  /**
   * The middles of 15 tenths are 0, 2, 3, 5, 6, 8, 9, 11, 12 and 14 samples behind the fall, those
   * of 14 tenths are 0, 2, 3, 4, 6, 7, 9, 10, 11 and 13.
   */
  private static void decodeSerialByTenths() {
    String at = "0" + "0" + "1" + "0" + "0" + "1" + "1" + "1" + "1" + "1" + "0" + "0" + "1" + "1"
        + "1";
    serial("1" + at, 15, 'n', "B1-15=" + (1 | 4 | 8 | 16 | 32 | 128) + "-");
    serial("1" + at, 14, 'n', "B1-14=" + (1 | 8 | 16 | 32) + "-");
    String slow = "0".repeat(40) + "1".repeat(360);
    serial("1" + slow.substring(0, 399), 400, 'n', "B1-381=255-");
    serial("1".repeat(19) + slow.substring(0, 381), 400, 'n', "B19-399=255-");
    serial("1".repeat(20) + slow.substring(0, 380), 400, 'n', "");
    serial("1" + "0".repeat(399), 999, 'n', "");
  }

  private static void decodeSerialGoesOn() {
    serial("1" + "0110100101" + "0110100101", 10, 'n', "B1-10=75- B11-20=75-");
    serial("1" + "0110100101" + "11" + "0000000001", 10, 'n', "B1-10=75- B13-22=0-");
    serial("1" + "0110100101" + "011010010", 10, 'n', "B1-10=75-");
    serial("11" + "01" + "11" + "0".repeat(4) + "1".repeat(40), 40, 'n', "B6-44=255-");
    serial("11" + "01" + "011" + "00" + "1".repeat(80), 80, 'n', "B4-80=255-");
    serial("1" + "0111111110" + "0" + "1" + "0111111111", 10, 'n', "B1-10=255f B13-22=255-");
    serial("1" + "0111111110" + "0111111110" + "1", 10, 'n', "B1-10=255f");
    serial("1" + "0000000000" + "1" + "0000000001", 10, 'n', "B1-10=0f B12-21=0-");
  }

  private static void decodeSerialFaults() {
    serial("1" + "01101001011", 10, 'e', "B1-11=75p");
    serial("1" + "01101001001", 10, 'o', "B1-11=75p");
    serial("1" + "01101001000", 10, 'e', "B1-11=75f");
    serial("1" + "01101001010", 10, 'e', "B1-11=75p");
    serial("1" + "0110100100", 10, 'n', "B1-10=75f");
    serial("1" + "01000000011", 10, 'e', "B1-11=1-");
    serial("1" + "01000000001", 10, 'o', "B1-11=1-");
  }

  private static void decodeSerialRefused() {
    CHECK.noWire("decodeSerial(2, ..)", x -> x.decodeSerial(2, 0, 30, 'e'));
    CHECK.noWire("decodeSerial(-1, ..)", x -> x.decodeSerial(-1, 0, 30, 'e'));
    CHECK.noWire("decodeSerial(0, 4, ..)", x -> x.decodeSerial(0, 4, 30, 'e'));
    CHECK.noWire("decodeSerial(0, -1, 9, x)", x -> x.decodeSerial(0, -1, 9, 'x'));
    CHECK.badNumber("9 tenths", x -> x.decodeSerial(0, 0, 9, 'e'));
    CHECK.badNumber("1000 tenths", x -> x.decodeSerial(0, 0, 1000, 'e'));
    CHECK.badNumber("no such parity", x -> x.decodeSerial(0, 0, 30, 'x'));
  }

  /**
   * Levels of clock and data for a text of S, E, 0 and 1, of two samples each: a start, an end, a
   * bit. A start ahead of which data is low is led in by a bit 1, an end by a bit 0.
   */
  private static Probehall drawnTwo(String text) {
    StringBuilder clock = new StringBuilder("1");
    StringBuilder data = new StringBuilder("1");
    for (char sign : text.toCharArray()) {
      boolean isBit = sign == '0' || sign == '1';
      clock.append(isBit ? "01" : "11");
      data.append(isBit ? "" + sign + sign : sign == 'S' ? "10" : "01");
    }
    Probehall x = new Probehall();
    Look.draw(x, 0, clock.toString());
    Look.draw(x, 1, data.toString());
    x.capture(0, 0, 1, clock.length());
    return x;
  }

  private static void two(String text, String due) {
    Probehall x = drawnTwo(text);
    int many = x.decodeTwo(0, 0, 1);
    CHECK.same("notes of " + text, x.notes(), many);
    CHECK.same("two wires of " + text, Look.notes(x), due);
  }

  private static void decodeTwo() {
    two("S", "S2-2=0-");
    two("S000010100" + "0E", "S2-2=0- A4-20=10- E24-24=0-");
    two("S000010101" + "0E", "S2-2=0- A4-20=10n E24-24=0-");
    two("S100000010" + "111111111" + "000000000", "S2-2=0- A4-20=129- D22-38=255n D40-56=0-");
    two("SE", "S2-2=0- E4-4=0-");
    two("S0E1S", "S2-2=0- E6-6=0- S10-10=0-");
    CHECK.same("a capture without samples", new Probehall().decodeTwo(1, 2, 3), 0);
    Probehall x = new Probehall();
    x.idle(0, true);
    x.flip(0, 4);
    x.flip(1, 4);
    x.capture(0, 0, 1, 9);
    CHECK.same("data that changes with the clock", x.decodeTwo(0, 0, 1), 0);
    x.flip(0, 4);
    CHECK.same("data that rises", x.capture(0, 0, 1, 9) + x.decodeTwo(0, 0, 1), 2);
    CHECK.same("is an end without a start", Look.notes(x), "E4-4=0-");
    x.idle(0, false);
    x.capture(0, 0, 1, 9);
    CHECK.same("data as the clock is low", x.decodeTwo(0, 0, 1), 0);
  }

  private static void decodeTwoInParts() {
    two("000010100" + "1S" + "000010100", "S22-22=0- A24-40=10-");
    two("S0000101" + "1S" + "000000010", "S2-2=0- S20-20=0- A22-38=1-");
    two("S00001010" + "E" + "000010100" + "111111111", "S2-2=0- E20-20=0-");
    two("S000010100" + "1S" + "000000110" + "111111110",
        "S2-2=0- A4-20=10- S24-24=0- A26-42=3- D44-60=255-");
    two("S000010100" + "0E" + "111111111" + "S" + "000001000",
        "S2-2=0- A4-20=10- E24-24=0- S44-44=0- A46-62=4-");
    two("S00001010", "S2-2=0-");
  }

  private static void decodeTwoSent() {
    Probehall x = new Probehall();
    x.idle(2, true);
    x.idle(1, true);
    x.twoWires(2, 1, 100, true, 9, 77, 10, 3);
    x.capture(1, 0, 1, 200);
    CHECK.same("notes of what was sent", x.decodeTwo(1, 2, 1), 5);
    CHECK.same("the notes", Look.notes(x),
        "S10-10=0- A16-64=201- D70-118=9- D124-172=77- E181-181=0-");
    CHECK.same("wires the other way about", x.decodeTwo(1, 1, 2) > 0, true);
  }

  private static void decodeTwoRefused() {
    CHECK.noWire("decodeTwo(2, ..)", x -> x.decodeTwo(2, 0, 1));
    CHECK.noWire("decodeTwo(-1, 1, 1)", x -> x.decodeTwo(-1, 1, 1));
    CHECK.noWire("decodeTwo(0, 4, 4)", x -> x.decodeTwo(0, 4, 4));
    CHECK.noWire("decodeTwo(0, 0, 4)", x -> x.decodeTwo(0, 0, 4));
    CHECK.noWire("decodeTwo(0, -1, 0)", x -> x.decodeTwo(0, -1, 0));
    CHECK.badNumber("both wires the same", x -> x.decodeTwo(0, 1, 1));
  }

  private static Probehall drawnFour(String clock, String data, String select) {
    Probehall x = new Probehall();
    Look.draw(x, 1, clock);
    Look.draw(x, 2, data);
    Look.draw(x, 3, select);
    x.capture(0, 0, 1, clock.length());
    return x;
  }

  private static void four(String clock, String data, String select, int mode, String due) {
    Probehall x = drawnFour(clock, data, select);
    int many = x.decodeFour(0, 1, 2, 3, mode);
    CHECK.same("notes of four wires", x.notes(), many);
    CHECK.same("mode " + mode + " of " + clock + ", " + data + ", " + select, Look.notes(x), due);
  }

  private static void decodeFour() {
    String clock = "0" + "01".repeat(8) + "0000";
    String data = "0" + "1100111100001100" + "0000";
    String select = "1" + "0".repeat(18) + "11";
    four(clock, data, select, 0, "B2-16=178-");
    four(clock, data, select, 3, "B2-16=178-");
    four(clock, data, select, 1, "B3-17=100-");
    four(clock, data, select, 2, "B3-17=100-");
    for (int mode = 0; mode < 4; mode++) {
      for (int sent = 0; sent < 4; sent++) {
        CHECK.same("mode " + sent + " read by " + mode, fourSent(sent, mode),
            fourRead(sent, mode));
      }
    }
    CHECK.same("a capture without samples", new Probehall().decodeFour(1, 2, 3, 0, 1), 0);
  }

  /** By the wrong edge, data that is there early is already the next bit, at last the same again. */
  private static String fourRead(int sent, int mode) {
    boolean isAtFirstEdge = (sent < 2) == (mode == 0 || mode == 3);
    boolean isEarly = sent == 0 || sent == 2;
    String at = isAtFirstEdge ? "B13-55=" : "B16-58=";
    return at + (isEarly && !isAtFirstEdge ? (147 << 1 | 1) & 255 : 147) + "-";
  }

  private static String fourSent(int sent, int mode) {
    Probehall x = new Probehall();
    x.idle(0, sent >= 2);
    x.idle(2, true);
    x.fourWires(0, 1, 2, 147, 10, 3, sent);
    x.capture(0, 0, 1, 80);
    x.decodeFour(0, 0, 1, 2, mode);
    return Look.notes(x);
  }

  private static void decodeFourShort() {
    four("0010101000", "0110011000", "1000000011", 0, "B2-8=5s");
    four("0010101010", "0110011000", "1000000001", 0, "B2-9=10s");
    four("0010101010", "0110011000", "1000000000", 0, "");
    four("0000000000", "0110011000", "1000000011", 0, "");
    four("0010101000", "0110011000", "1111111111", 0, "");
    four("0010101000", "0110011000", "1100000011", 0, "B4-8=1s");
    four("0010101010", "0110011000", "0000000011", 0, "B2-8=5s");
    four("0101010000" + "0101", "0101010000" + "0101", "0000000100" + "0001", 0,
        "B1-7=7s B11-13=1s");
    four("01".repeat(20), "1".repeat(40), "1" + "0".repeat(38) + "1", 0,
        "B3-17=255- B19-33=255- B35-39=3s");
    four("01".repeat(9) + "0", "1".repeat(19), "0".repeat(16) + "111", 0, "B1-15=255-");
  }

  /** Behind the last sample there is nothing, not even a wire that falls. */
  private static void decodeFourUpToTheLast() {
    String high = "1".repeat(16);
    String low = "0".repeat(16);
    four("01".repeat(8), high, low, 1, "");
    four("0" + "10".repeat(8), "1" + high, "0" + low, 1, "B2-16=255-");
    four("10".repeat(8), high, low, 1, "B1-15=255-");
  }

  private static void decodeFourRefused() {
    CHECK.noWire("decodeFour(2, ..)", x -> x.decodeFour(2, 0, 1, 2, 0));
    CHECK.noWire("decodeFour(-1, 0, 0, 0, 9)", x -> x.decodeFour(-1, 0, 0, 0, 9));
    CHECK.noWire("clock 4", x -> x.decodeFour(0, 4, 1, 2, 0));
    CHECK.noWire("data -1", x -> x.decodeFour(0, 0, -1, 2, 0));
    CHECK.noWire("select 4", x -> x.decodeFour(0, 1, 1, 4, 7));
    CHECK.badNumber("clock is data", x -> x.decodeFour(0, 1, 1, 2, 0));
    CHECK.badNumber("clock is select", x -> x.decodeFour(0, 2, 1, 2, 0));
    CHECK.badNumber("data is select", x -> x.decodeFour(0, 0, 2, 2, 0));
    CHECK.badNumber("mode -1", x -> x.decodeFour(0, 0, 1, 2, -1));
    CHECK.badNumber("mode 4", x -> x.decodeFour(0, 0, 1, 2, 4));
  }

  private static void mostNotes() {
    Probehall x = Look.drawn("01".repeat(100) + "0");
    x.idle(1, true);
    x.capture(0, 0, 1, 201);
    CHECK.same("200 starts and ends", x.decodeTwo(0, 1, 0), 200);
    CHECK.same("the last of them", Look.note(x, 199), "S200-200=0-");
    x.flip(0, 201);
    x.flip(0, 202);
    x.capture(0, 0, 1, 210);
    CHECK.same("further ones are not told", x.decodeTwo(0, 1, 0), 200);
    CHECK.same("the last that is told", Look.note(x, 199), "S200-200=0-");
    CHECK.same("a bench of 200 notes is sound", x.isSound(), true);
  }

  private static void notes() {
    Probehall x = drawnTwo("S000010101" + "000000110" + "0E");
    CHECK.same("notes ahead of a decoding", x.notes(), 0);
    x.decodeTwo(0, 0, 1);
    CHECK.same("notes", x.notes(), 4);
    CHECK.same("kinds", "" + x.kind(0) + x.kind(1) + x.kind(2) + x.kind(3), "SADE");
    CHECK.same("faults", "" + x.fault(0) + x.fault(1) + x.fault(2) + x.fault(3), "-n--");
    CHECK.same("begin", x.begin(1), 4);
    CHECK.same("end", x.end(1), 20);
    CHECK.same("value", x.value(1), 10);
    x.capture(0, 0, 1, 3);
    CHECK.same("notes stay behind a capture", x.notes(), 4);
    CHECK.same("notes in place of those told ahead", x.decodeTwo(0, 0, 1), 1);
    for (int note : new int[] {-1, 10, 200, Integer.MAX_VALUE, Integer.MIN_VALUE}) {
      CHECK.noWire("kind " + note, y -> y.kind(note));
      CHECK.noWire("begin " + note, y -> y.begin(note));
      CHECK.noWire("end " + note, y -> y.end(note));
      CHECK.noWire("value " + note, y -> y.value(note));
      CHECK.noWire("fault " + note, y -> y.fault(note));
    }
    Consumer<Probehall> fewer = y -> {
      Look.busyScene(y);
      y.capture(0, 300, 1, 3);
      y.decodeTwo(0, 0, 1);
    };
    CHECK.refused("a note of before", IndexOutOfBoundsException.class, fewer, y -> y.kind(0));
  }

  private static void rate() {
    CHECK.same("rate of 0111001110", Look.drawn("0111001110").rate(0, 0), 20);
    CHECK.same("rate of 010", Look.drawn("010").rate(0, 0), 10);
    CHECK.noWire("rate(2, 0)", x -> x.rate(2, 0));
    CHECK.noWire("rate(0, 4)", x -> x.rate(0, 4));
    CHECK.noWire("rate(-1, -1)", x -> x.rate(-1, -1));
    CHECK.refused("rate of no samples", NoSuchElementException.class, Look::emptyScene,
        x -> x.rate(0, 0));
  }

  private static String sets(String text, int address, int register) {
    Probehall x = drawnTwo(text);
    x.decodeTwo(0, 0, 1);
    return "" + x.register(address, register);
  }

  private static void register() {
    String a = "000010100";
    String d = "000000110";
    String v = "100000010";
    CHECK.same("a byte and two", sets("S" + a + d + v + "0E", 5, 3), "129");
    CHECK.same("without an end", sets("S" + a + d + v, 5, 3), "129");
    CHECK.same("and a third", sets("S" + a + d + v + "111111110" + "0E", 5, 3), "129");
    CHECK.same("the lowest 4 bits", sets("S" + a + "111100110" + v + "0E", 5, 3), "129");
    CHECK.same("another register", sets("S" + a + d + v + "0E", 5, 4), "0");
    CHECK.same("another device", sets("S" + a + d + v + "0E", 10, 3), "0");
    CHECK.same("a byte that reads", sets("S" + "000010110" + d + v + "0E", 5, 3), "0");
    CHECK.same("an end between", sets("S" + a + d + "0E" + v, 5, 3), "0");
    CHECK.same("a start between", sets("S" + a + d + "1S" + v + v, 5, 3), "0");
    CHECK.same("an unanswered address", sets("S" + "000010101" + d + v, 5, 3), "0");
    CHECK.same("an unanswered register", sets("S" + a + "000000111" + v, 5, 3), "0");
    CHECK.same("an unanswered value", sets("S" + a + d + "100000011", 5, 3), "0");
    CHECK.same("a fourth that is unanswered", sets("S" + a + d + v + "111111111", 5, 3), "129");
    CHECK.same("behind an unanswered one", sets("S" + "000010101" + d + v + "1S" + a + d + v, 5, 3),
        "129");
    CHECK.same("the greatest", sets("S" + "111111100" + "000011110" + "111111110", 127, 15), "255");
    CHECK.same("the least", sets("S" + "000000000" + "000000000" + v, 0, 0), "129");
    registersStay();
    CHECK.badNumber("register(-1, 0)", x -> x.register(-1, 0));
    CHECK.badNumber("register(128, 0)", x -> x.register(128, 0));
    CHECK.badNumber("register(0, -1)", x -> x.register(0, -1));
    CHECK.badNumber("register(0, 16)", x -> x.register(0, 16));
  }

  private static void registersStay() {
    Probehall x = new Probehall();
    x.idle(0, true);
    x.idle(1, true);
    x.twoWires(0, 1, 9, false, 2, 41, 5, 1);
    x.twoWires(0, 1, 9, false, 2, 42, 100, 1);
    x.twoWires(0, 1, 9, false, 1, 43, 200, 1);
    x.capture(0, 0, 1, 90);
    CHECK.same("a register ahead of a decoding", x.register(9, 2), 0);
    x.decodeTwo(0, 0, 1);
    CHECK.same("a register", x.register(9, 2), 41);
    x.capture(0, 0, 1, 300);
    x.decodeTwo(0, 0, 1);
    CHECK.same("the later one counts", x.register(9, 2) + " " + x.register(9, 1), "42 43");
    x.decodeSerial(0, 0, 10, 'n');
    x.capture(0, 5000, 1, 300);
    x.decodeTwo(0, 0, 1);
    CHECK.same("registers stay", x.register(9, 2) + " " + x.register(9, 1), "42 43");
  }

  private static void registersOfUntoldBytes() {
    String bits = "S" + "000010100" + "000000110" + "100000010";
    Probehall x = new Probehall();
    StringBuilder clock = new StringBuilder("1");
    StringBuilder data = new StringBuilder("1");
    for (int i = 0; i < 100; i++) {
      clock.append("11");
      data.append("01");
    }
    for (char sign : bits.toCharArray()) {
      clock.append(sign == 'S' ? "11" : "01");
      data.append(sign == 'S' ? "10" : "" + sign + sign);
    }
    Look.draw(x, 0, clock.toString());
    Look.draw(x, 1, data.toString());
    x.capture(0, 0, 1, clock.length());
    CHECK.same("200 notes and more", x.decodeTwo(0, 0, 1), 200);
    CHECK.same("the last that is told", Look.note(x, 199), "E200-200=0-");
    CHECK.same("a register of bytes that are not told", x.register(5, 3), 129);
  }

  private static void follows() {
    String seven = "0111000001";
    String five = "0101000001";
    Probehall x = Look.drawn("1" + seven + seven + seven + five + seven);
    CHECK.same("without notes", x.follows(7, 7), 0);
    x.decodeSerial(0, 0, 10, 'n');
    CHECK.same("7 and 7", x.follows(7, 7), 2);
    CHECK.same("7 and 5", x.follows(7, 5), 1);
    CHECK.same("5 and 7", x.follows(5, 7), 1);
    CHECK.same("5 and 5", x.follows(5, 5), 0);
    Probehall most = Look.drawn("1" + ("0" + "1".repeat(9)).repeat(3));
    most.decodeSerial(0, 0, 10, 'n');
    CHECK.same("255 and 255", most.follows(255, 255), 2);
    Probehall y = drawnTwo("S000010100" + "1S" + "000000110" + "0E" + "1S" + "000000000");
    y.decodeTwo(0, 0, 1);
    CHECK.same("over a start", y.follows(10, 3), 1);
    CHECK.same("over an end and a start", y.follows(3, 0), 1);
    CHECK.same("a start has no value", y.follows(0, 10), 0);
    CHECK.same("none has a neighbour at the end", y.follows(0, 0), 0);
    CHECK.badNumber("follows(-1, 0)", z -> z.follows(-1, 0));
    CHECK.badNumber("follows(256, 0)", z -> z.follows(256, 0));
    CHECK.badNumber("follows(0, -1)", z -> z.follows(0, -1));
    CHECK.badNumber("follows(0, 256)", z -> z.follows(0, 256));
  }
}
