import java.util.function.Consumer;

/** The bounds of promises 21 to 32: decoders, notes, rates, registers and which value follows which. */
public final class DecodingBoundsTest {
  private static final Check CHECK = new Check("DecodingBoundsTest");

  /** An address 5 that is written to, the register 3, the value 129, all answered. */
  private static final String ADDRESS = "000010100";
  private static final String REGISTER = "000000110";
  private static final String VALUE = "100000010";

  private DecodingBoundsTest() {
  }

  public static void main(String[] args) {
    noSamples();
    serialTenths();
    serialMiddles();
    serialUpToTheLastSample();
    serialFalls();
    serialGoesOn();
    serialValuesAndFaults();
    serialMostNotes();
    twoFirstAndLast();
    twoStartsAndEnds();
    twoBits();
    twoValues();
    fourFirstAndLast();
    fourBits();
    fourSelect();
    fourModes();
    mostNotes();
    mostNotesAndBytes();
    notesInPlace();
    notesRefused();
    rate();
    registers();
    registersNotSet();
    registersOfUntoldBytes();
    registersRefused();
    follows();
    CHECK.finish();
  }

  private static void noSamples() {
    CHECK.says("No decoder tells what its samples do not have.");
    for (int capture = 0; capture < 2; capture++) {
      Probehall x = new Probehall();
      x.capture(1 - capture, 0, 1, 400);
      CHECK.same("serial of no samples", x.decodeSerial(capture, 0, 10, 'n'), 0);
      CHECK.same("two wires of no samples", x.decodeTwo(capture, 0, 1), 0);
      CHECK.same("four wires of no samples", x.decodeFour(capture, 0, 1, 2, 0), 0);
      x.capture(capture, 0, 1, 1);
      CHECK.same("serial of one sample", x.decodeSerial(capture, 0, 10, 'n'), 0);
      CHECK.same("two wires of one sample", x.decodeTwo(capture, 0, 1), 0);
      CHECK.same("four wires of one sample", x.decodeFour(capture, 0, 1, 2, 0), 0);
      x.capture(capture, 0, 1, 400);
      CHECK.same("serial of nothing", x.decodeSerial(capture, 0, 10, 'n'), 0);
      CHECK.same("two wires of nothing", x.decodeTwo(capture, 0, 1), 0);
      CHECK.same("four wires of nothing", x.decodeFour(capture, 0, 1, 2, 0), 0);
    }
  }

  private static void serial(String levels, int tenths, char parity, String due) {
    Probehall x = Look.drawn(levels);
    int many = x.decodeSerial(0, 0, tenths, parity);
    CHECK.same("number of notes of " + levels, x.notes(), many);
    CHECK.same(tenths + " " + parity + " of " + levels, Look.notes(x), due);
  }

  private static void serialTenths() {
    CHECK.says("Serial decoding goes by tenths of a sample for a bit, 10 to 999.");
    CHECK.badNumber("9 tenths", x -> x.decodeSerial(0, 0, 9, 'n'));
    CHECK.badNumber("0 tenths", x -> x.decodeSerial(0, 0, 0, 'n'));
    CHECK.badNumber("1000 tenths", x -> x.decodeSerial(0, 0, 1000, 'n'));
    serial("1" + "0" + "10000000" + "1", 10, 'n', "B1-10=1-");
    serial("1" + "0".repeat(399), 999, 'n', "");
    serial("1" + "0".repeat(399), 420, 'n', "");
    serial("1" + "0".repeat(399), 419, 'n', "B1-399=0f");
    serial("1" + "0".repeat(398), 419, 'n', "");
    serial("1" + "0".repeat(398) + "1", 419, 'n', "B1-399=0-");
    serial("1" + "0".repeat(399), 380, 'e', "");
    serial("1" + "0".repeat(399), 379, 'e', "B1-398=0f");
    serial("1" + "0".repeat(398), 379, 'e', "B1-398=0f");
    serial("1" + "0".repeat(397), 379, 'e', "");
  }

  /** One sample is low among highs, or high among lows: only the bit that has its middle there is so. */
  private static void serialMiddles() {
    CHECK.says("the middle of the bit n, the low one being 0, is 2n + 1 times these tenths, divided by "
        + "20, cut, samples behind it");
    int[] tenths = {10, 13, 19, 20, 21, 37, 99, 100, 399};
    for (int t : tenths) {
      for (int n = 1; n <= 9; n++) {
        int middle = (2 * n + 1) * t / 20;
        int low = t / 20 + 1;
        int behind = 1 + 19 * t / 20;
        if (middle < low || middle == behind) {
          continue;
        }
        StringBuilder levels = new StringBuilder("1" + "0".repeat(low) + "1".repeat(400));
        levels.setCharAt(1 + middle, '0');
        int value = n < 9 ? 255 & ~(1 << n - 1) : 255;
        serial(levels.substring(0, behind + 1), t, 'n',
            "B1-" + behind + "=" + value + (n < 9 ? "-" : "f"));
      }
    }
  }

  private static void serialUpToTheLastSample() {
    CHECK.says("What goes beyond the samples is not told.");
    serial("1" + "0" + "11111111" + "1", 10, 'n', "B1-10=255-");
    serial("1" + "0" + "11111111", 10, 'n', "");
    serial("1" + "0" + "11111111" + "01", 10, 'e', "B1-11=255-");
    serial("1" + "0" + "11111111" + "0", 10, 'e', "");
    serial("1".repeat(389) + "0" + "11111111" + "11", 10, 'n', "B389-398=255-");
    serial("1".repeat(390) + "0" + "11111111" + "1", 10, 'n', "B390-399=255-");
    serial("1".repeat(391) + "0" + "11111111", 10, 'n', "");
    serial("1".repeat(399) + "0", 10, 'n', "");
    serial("1".repeat(389) + "0" + "11111111" + "01", 10, 'e', "B389-399=255-");
    serial("1".repeat(390) + "0" + "11111111" + "0", 10, 'e', "");
  }

  private static void serialFalls() {
    CHECK.says("From a sample at which a wire falls");
    CHECK.says("If the bit 0 is not low, it goes on with the next fall.");
    serial("0" + "11111111" + "111", 10, 'n', "");
    serial("00000000000000", 10, 'n', "");
    serial("10" + "111111111", 20, 'n', "");
    serial("100" + "1".repeat(17), 19, 'n', "B1-19=255-");
    serial("100" + "1".repeat(18), 20, 'n', "B1-20=255-");
    serial("10" + "1" + "00" + "1".repeat(18), 20, 'n', "B3-22=255-");
    serial("10" + "10" + "1" + "00" + "1".repeat(18), 20, 'n', "B5-24=255-");
    serial("1011" + "0".repeat(5) + "1".repeat(34), 40, 'n', "B4-42=255-");
    serial("1011" + "0".repeat(5) + "1".repeat(33), 40, 'n', "");
    serial("1010" + "0".repeat(5) + "1".repeat(34), 40, 'n', "B1-39=254-");
    serial("10100" + "1".repeat(40), 39, 'n', "B3-40=255-");
  }

  private static void serialGoesOn() {
    CHECK.says("It goes on behind the note.");
    String one = "0" + "11111111" + "1";
    serial("1" + one + one + one, 10, 'n', "B1-10=255- B11-20=255- B21-30=255-");
    serial("1" + one + "1" + one, 10, 'n', "B1-10=255- B12-21=255-");
    serial("1" + "0" + "11111111" + "0" + "111111111111", 10, 'n', "B1-10=255f");
    serial("1" + "0" + "11111111" + "0" + "0" + one, 10, 'n', "B1-10=255f");
    serial("1" + "0" + "11111111" + "0" + "1" + one, 10, 'n', "B1-10=255f B12-21=255-");
    serial("1" + "0" + "01010101" + "1" + "111111111111", 10, 'n', "B1-10=170-");
  }

  private static void serialValuesAndFaults() {
    CHECK.says("it has the value, and is 'p' if parity is wrong, otherwise 'f' if the last bit is not "
        + "high");
    String[] bits = {"00000000", "10000000", "00000001", "01111111", "11111110", "11111111"};
    int[] values = {0, 1, 128, 254, 127, 255};
    for (int i = 0; i < bits.length; i++) {
      boolean isOdd = i > 0 && i < 5;
      String even = isOdd ? "1" : "0";
      String odd = isOdd ? "0" : "1";
      String byNone = "B1-10=" + values[i];
      String by = "B1-11=" + values[i];
      serial("10" + bits[i] + "1", 10, 'n', byNone + "-");
      serial("10" + bits[i] + "0", 10, 'n', byNone + "f");
      serial("10" + bits[i] + even + "1", 10, 'e', by + "-");
      serial("10" + bits[i] + even + "0", 10, 'e', by + "f");
      serial("10" + bits[i] + odd + "1", 10, 'e', by + "p");
      serial("10" + bits[i] + odd + "0", 10, 'e', by + "p");
      serial("10" + bits[i] + odd + "1", 10, 'o', by + "-");
      serial("10" + bits[i] + odd + "0", 10, 'o', by + "f");
      serial("10" + bits[i] + even + "1", 10, 'o', by + "p");
      serial("10" + bits[i] + even + "0", 10, 'o', by + "p");
    }
  }

  private static void serialMostNotes() {
    Probehall x = Look.drawn("1" + ("0" + "1".repeat(9)).repeat(39) + "0" + "1".repeat(8));
    CHECK.same("39 bytes and a part", x.decodeSerial(0, 0, 10, 'n'), 39);
    CHECK.same("the last of them", Look.note(x, 38), "B381-390=255-");
    CHECK.same("which follows itself", x.follows(255, 255), 38);
  }

  private static String notesOfTwo(String clock, String data) {
    Probehall x = new Probehall();
    Look.draw(x, 1, clock);
    Look.draw(x, 3, data);
    x.capture(1, 0, 1, clock.length());
    int many = x.decodeTwo(1, 1, 3);
    CHECK.same("number of notes of " + clock, x.notes(), many);
    return Look.notes(x);
  }

  private static void two(String clock, String data, String due) {
    CHECK.same("the clock " + clock + " and data " + data, notesOfTwo(clock, data), due);
  }

  private static void twoFirstAndLast() {
    CHECK.says("where the clock is high at a sample and the one ahead, data that falls is a start "
        + "'S', data that rises is an end 'E'; where the clock rises, data's level is a bit");
    two("11", "10", "S1-1=0-");
    two("11", "01", "E1-1=0-");
    two("11", "11", "");
    two("11", "00", "");
    two("01", "10", "");
    two("10", "10", "");
    two("00", "10", "");
    two("01", "01", "");
    two("10", "01", "");
    two("00", "01", "");
    two("1".repeat(400), "1".repeat(399) + "0", "S399-399=0-");
    two("1".repeat(400), "0".repeat(399) + "1", "E399-399=0-");
    two("1" + "1" + "01".repeat(9), "10" + "00".repeat(9), "S1-1=0- A3-19=0-");
    two("1" + "1" + "01".repeat(9), "10" + "11".repeat(9), "S1-1=0- A3-19=255n");
    two("1" + "1" + "01".repeat(8) + "0", "10" + "00".repeat(8) + "0", "S1-1=0-");
    String lead = "1".repeat(381);
    two(lead + "1" + "01".repeat(9), lead + "0" + "0".repeat(18), "S381-381=0- A383-399=0-");
    two(lead + "11" + "01".repeat(8) + "0", lead + "10" + "0".repeat(17), "S382-382=0-");
  }

  private static void twoStartsAndEnds() {
    CHECK.says("starts and ends are at one sample, with the value 0");
    two("111", "101", "S1-1=0- E2-2=0-");
    two("111", "010", "E1-1=0- S2-2=0-");
    two("11111", "10101", "S1-1=0- E2-2=0- S3-3=0- E4-4=0-");
    two("110011", "110000", "");
    two("110011", "110001", "E5-5=0-");
    two("110011", "110110", "S5-5=0-");
    two("1100111", "1101110", "S6-6=0-");
  }

  /**
   * Levels of clock and data for a text of S, E, 0 and 1, of two samples each. A start ahead of which
   * data is low is led in by a bit 1, an end by a bit 0.
   */
  private static String[] linesOf(String text) {
    StringBuilder clock = new StringBuilder("1");
    StringBuilder data = new StringBuilder("1");
    for (char sign : text.toCharArray()) {
      boolean isBit = sign == '0' || sign == '1';
      clock.append(isBit ? "01" : "11");
      data.append(isBit ? "" + sign + sign : sign == 'S' ? "10" : "01");
    }
    return new String[] {clock.toString(), data.toString()};
  }

  private static void drawTwo(Probehall x, String text) {
    String[] lines = linesOf(text);
    Look.draw(x, 1, lines[0]);
    Look.draw(x, 3, lines[1]);
    x.capture(0, 0, 1, lines[0].length());
  }

  private static void bits(String text, String due) {
    String[] lines = linesOf(text);
    CHECK.same("two wires of " + text, notesOfTwo(lines[0], lines[1]), due);
  }

  private static void twoBits() {
    CHECK.says("Nine bits since the last start are a byte, 'A' the first one behind a start, 'D' "
        + "others");
    CHECK.says("Bits ahead of the first start, or behind an end and ahead of the next start, or fewer "
        + "than nine ahead of a start or end, are not told.");
    String nine = "000000000";
    bits(nine + nine, "");
    bits(nine + "1S", "S22-22=0-");
    bits("S" + "00000000", "S2-2=0-");
    bits("S" + nine, "S2-2=0- A4-20=0-");
    bits("S" + nine + "00000000", "S2-2=0- A4-20=0-");
    bits("S" + nine + nine, "S2-2=0- A4-20=0- D22-38=0-");
    bits("S" + nine + nine + nine + nine, "S2-2=0- A4-20=0- D22-38=0- D40-56=0- D58-74=0-");
    bits("S" + "00000001" + "S" + nine, "S2-2=0- S20-20=0- A22-38=0-");
    bits("S" + "00000000" + "E", "S2-2=0- E20-20=0-");
    bits("S" + "0000000" + "0E" + nine, "S2-2=0- E20-20=0-");
    bits("S" + nine + "0E", "S2-2=0- A4-20=0- E24-24=0-");
    bits("S" + nine + "0000000" + "0E", "S2-2=0- A4-20=0- E38-38=0-");
    bits("S" + nine + "0000000" + "1S" + nine, "S2-2=0- A4-20=0- S38-38=0- A40-56=0-");
    bits("SE" + nine + nine + "1S" + nine, "S2-2=0- E4-4=0- S44-44=0- A46-62=0-");
    bits("S" + "0E" + "1S" + "0E", "S2-2=0- E6-6=0- S10-10=0- E14-14=0-");
    bits("SESESE", "S2-2=0- E4-4=0- S6-6=0- E8-8=0- S10-10=0- E12-12=0-");
    bits("0E" + nine + "0E", "E4-4=0- E26-26=0-");
  }

  private static void twoValues() {
    CHECK.says("with the value of eight of them, from the sample of its first bit to that of its "
        + "ninth; it is 'n' if the ninth is high");
    bits("S" + "000000001", "S2-2=0- A4-20=0n");
    bits("S" + "111111110", "S2-2=0- A4-20=255-");
    bits("S" + "111111111", "S2-2=0- A4-20=255n");
    bits("S" + "100000000", "S2-2=0- A4-20=128-");
    bits("S" + "000000010", "S2-2=0- A4-20=1-");
    bits("S" + "000000010" + "111111101", "S2-2=0- A4-20=1- D22-38=254n");
    bits("S" + "000000011" + "011111110", "S2-2=0- A4-20=1n D22-38=127-");
  }

  private static String notesOfFour(String clock, String data, String select, int mode) {
    Probehall x = new Probehall();
    Look.draw(x, 2, clock);
    Look.draw(x, 0, data);
    Look.draw(x, 3, select);
    x.capture(1, 0, 1, clock.length());
    int many = x.decodeFour(1, 2, 0, 3, mode);
    CHECK.same("number of notes of " + clock, x.notes(), many);
    return Look.notes(x);
  }

  private static void four(String clock, String data, String select, String due) {
    CHECK.same(clock + ", " + data + ", " + select, notesOfFour(clock, data, select, 0), due);
  }

  private static void fourFirstAndLast() {
    CHECK.says("eight are a byte 'B', from its first one to its eighth");
    String eight = "01".repeat(8);
    four(eight, "1".repeat(16), "0".repeat(16), "B1-15=255-");
    four(eight, "0".repeat(16), "0".repeat(16), "B1-15=0-");
    four(eight.substring(0, 15), "1".repeat(15), "0".repeat(15), "");
    four("0".repeat(384) + eight, "1".repeat(400), "0".repeat(400), "B385-399=255-");
    four("0".repeat(385) + "01".repeat(7) + "0", "1".repeat(400), "0".repeat(400), "");
    four("01".repeat(150), "1".repeat(300), "0".repeat(300), bytesOf(18));
    four("01".repeat(16), "0".repeat(15) + "1" + "0".repeat(16), "0".repeat(32),
        "B1-15=1- B17-31=0-");
    four("01".repeat(16), "01" + "0".repeat(30), "0".repeat(32), "B1-15=128- B17-31=0-");
  }

  private static String bytesOf(int many) {
    StringBuilder notes = new StringBuilder();
    for (int i = 0; i < many; i++) {
      notes.append(i == 0 ? "" : " ").append('B').append(16 * i + 1).append('-');
      notes.append(16 * i + 15).append("=255-");
    }
    return notes.toString();
  }

  private static void fourBits() {
    CHECK.says("as select rises with fewer, one at least, they are told as 'B' with the number that "
        + "these bits make alone, the highest first, to this sample, and are 's'");
    for (int many = 0; many <= 9; many++) {
      String clock = "0" + "01".repeat(many) + "00";
      String ones = "1".repeat(clock.length());
      String first = "0" + "01".repeat(Math.min(1, many)) + "0".repeat(clock.length());
      String select = "0".repeat(clock.length() - 1) + "1";
      int end = 2 * many + 2;
      String whole = many >= 8 ? "B2-16=255-" : "";
      String rest = many % 8 == 0 ? "" : "B" + (many < 8 ? 2 : 18) + "-" + end + "=";
      String between = many == 9 ? " " : "";
      four(clock, ones, select,
          whole + between + (rest.isEmpty() ? "" : rest + ((1 << many % 8) - 1) + "s"));
      String wholeOfFirst = many >= 8 ? "B2-16=128-" : "";
      int restOfFirst = many == 9 ? 0 : 1 << Math.max(0, many - 1);
      four(clock, first.substring(0, clock.length()), select,
          wholeOfFirst + between + (rest.isEmpty() ? "" : rest + restOfFirst + "s"));
    }
    four("00101010101010", "11111111111111", "00000000000000", "");
  }

  private static void fourSelect() {
    CHECK.says("as select is low at a sample and the one ahead");
    four("0100", "1111", "0001", "B1-3=1s");
    four("0100", "1111", "1001", "");
    four("0010", "1111", "1001", "B2-3=1s");
    four("0010", "1111", "1101", "");
    four("0010", "1111", "0010", "");
    four("0101", "1111", "0010", "B1-2=1s");
    four("0101", "1111", "0001", "B1-3=1s");
    four("01010", "11111", "00001", "B1-4=3s");
    four("0100010", "1111111", "0010001", "B1-2=1s B5-6=1s");
    four("0101010", "1111111", "0010011", "B1-2=1s");
    four("0101010", "1101111", "1111111", "");
    four("01010", "11110", "00000", "");
    String byEach = "1" + "001".repeat(133);
    String clock = "0" + "010".repeat(133);
    Probehall x = new Probehall();
    x.idle(0, true);
    Look.draw(x, 2, clock.substring(0, 300));
    Look.draw(x, 3, byEach.substring(0, 300));
    x.capture(0, 0, 1, 300);
    CHECK.same("a bit by each select", x.decodeFour(0, 2, 0, 3, 0), 99);
    CHECK.same("the last of them", Look.note(x, 98), "B296-297=1s");
  }

  private static void fourModes() {
    CHECK.says("a clock that rises, in the modes 0 and 3, or falls, in 1 and 2");
    String clock = "00110";
    String data = "00100";
    String select = "00001";
    String risen = "B2-4=1s";
    CHECK.same("the mode 0 rises", notesOfFour(clock, data, select, 0), risen);
    CHECK.same("the mode 3 rises", notesOfFour(clock, data, select, 3), risen);
    String fallen = "B4-5=0s";
    CHECK.same("the mode 1 falls", notesOfFour(clock + "0", data + "0", "000001", 1), fallen);
    CHECK.same("the mode 2 falls", notesOfFour(clock + "0", data + "0", "000001", 2), fallen);
    CHECK.same("a fall at the last sample", notesOfFour("10".repeat(8), "01".repeat(8),
        "0".repeat(16), 2), "B1-15=255-");
    CHECK.same("a rise there", notesOfFour("10".repeat(8), "01".repeat(8), "0".repeat(16), 3), "");
    CHECK.badNumber("the mode -1", x -> x.decodeFour(0, 0, 1, 2, -1));
    CHECK.badNumber("the mode 4", x -> x.decodeFour(0, 0, 1, 2, 4));
  }

  private static void mostNotes() {
    CHECK.says("Notes are numbered from 0, at most 200, further ones not being told");
    for (int many : new int[] {0, 1, 199, 200, 201, 250, 299}) {
      Probehall x = new Probehall();
      Full.notes(x, many);
      int told = Math.min(200, many);
      CHECK.same("notes of " + many, x.notes(), told);
      CHECK.same("a decoding of them", x.decodeTwo(0, 0, 1), told);
      if (told > 0) {
        CHECK.same("the last note of " + many, Look.note(x, told - 1),
            (told % 2 == 1 ? "S" : "E") + told + "-" + told + "=0-");
        CHECK.same("the first one", Look.note(x, 0), "S1-1=0-");
      }
      CHECK.same("such a bench is sound", x.isSound(), true);
      for (int wrong : new int[] {-1, told, 200, 201}) {
        CHECK.refused("the note " + wrong + " of " + told, IndexOutOfBoundsException.class,
            y -> Full.notes(y, many), y -> y.kind(wrong));
      }
    }
  }

  /** So many starts and ends, and behind them an address, a register and a value, and an end. */
  private static Probehall notesAndBytes(int many) {
    Probehall x = new Probehall();
    drawTwo(x, "SE".repeat(many / 2) + "S" + ADDRESS + REGISTER + VALUE + "0E");
    x.decodeTwo(0, 1, 3);
    return x;
  }

  private static void mostNotesAndBytes() {
    CHECK.says("further ones not being told");
    Probehall x = new Probehall();
    Full.comb(x, 3, 2, 19);
    x.idle(1, true);
    x.idle(3, true);
    x.twoWires(1, 3, 5, false, 3, 129, 390, 2);
    x.capture(0, 0, 2, 400);
    int[] ahead = {190, 191, 192, 193, 194};
    String[] due = {"S195", "A197", "D215", "D233", "E252"};
    CHECK.same("some starts and ends, and what was sent", x.decodeTwo(0, 1, 3), 195);
    for (int i = 0; i < ahead.length; i++) {
      CHECK.same("the note " + ahead[i], x.kind(ahead[i]) + "" + x.begin(ahead[i]), due[i]);
    }
    for (int more = 5; more <= 10; more++) {
      Probehall y = new Probehall();
      y.idle(1, true);
      y.idle(3, true);
      Full.comb(y, 3, 2, 19);
      for (int i = 0; i < more; i++) {
        y.flip(3, 2 + 380 + 2 * i);
      }
      boolean isLow = more % 2 == 1;
      if (isLow) {
        y.flip(3, 2 + 380 + 2 * more);
      }
      y.twoWires(1, 3, 5, false, 3, 129, 420, 2);
      y.capture(0, 0, 2, 400);
      int others = 190 + more + (isLow ? 1 : 0);
      CHECK.same("notes of " + others + " and five", y.decodeTwo(0, 1, 3),
          Math.min(200, others + 5));
      String kinds = "SADDE".substring(0, Math.min(5, 200 - others));
      for (int i = 0; i < kinds.length(); i++) {
        CHECK.same("the note " + (others + i), y.kind(others + i), kinds.charAt(i));
      }
      CHECK.same("the register, behind " + others, y.register(5, 3), 129);
      CHECK.same("10 and 3 are told, behind " + others, y.follows(10, 3),
          kinds.startsWith("SAD") ? 1 : 0);
      CHECK.same("3 and 129 are told, behind " + others, y.follows(3, 129),
          kinds.startsWith("SADD") ? 1 : 0);
    }
    CHECK.same("notes ahead of bytes", notesAndBytes(40).kind(41), 'A');
  }

  private static void notesInPlace() {
    CHECK.says("in place of those told ahead");
    Probehall x = new Probehall();
    Full.notes(x, 200);
    CHECK.same("200 notes", x.notes(), 200);
    CHECK.same("none in place of them", x.decodeTwo(1, 0, 1) + x.notes(), 0);
    CHECK.same("a checksum without notes", x.checksum(), checksumOf(x));
    x.decodeTwo(0, 0, 1);
    CHECK.same("serial ones in place of them", x.decodeSerial(1, 0, 10, 'n') + x.notes(), 0);
    x.decodeTwo(0, 0, 1);
    CHECK.same("four ones in place of them", x.decodeFour(1, 0, 1, 2, 0) + x.notes(), 0);
    x.decodeTwo(0, 0, 1);
    x.capture(0, 9000, 1, 3);
    CHECK.same("a capture leaves them", x.notes() + " " + Look.note(x, 199), "200 E200-200=0-");
    CHECK.same("notes at first", new Probehall().notes(), 0);
  }

  private static long checksumOf(Probehall x) {
    long sum = 7;
    for (int i = 0; i < x.samples(0); i++) {
      sum = 31 * sum + x.sample(0, i);
    }
    return sum;
  }

  private static void notesRefused() {
    CHECK.says("if there is no such note");
    for (int wrong : new int[] {0, -1, 1, 199, 200, Integer.MAX_VALUE, Integer.MIN_VALUE}) {
      looksAt(wrong, Look::emptyScene);
    }
    for (int wrong : new int[] {-1, 200, Integer.MAX_VALUE, Integer.MIN_VALUE}) {
      looksAt(wrong, x -> Full.notes(x, 200));
    }
    looksAt(199, x -> Full.notes(x, 199));
    looksAt(1, x -> Full.notes(x, 1));
    looksAt(5, x -> {
      Full.notes(x, 200);
      Full.changes(x, 200);
      x.glitch(1, 2, 2);
      x.capture(0, 0, 2, 4);
      x.decodeTwo(0, 0, 1);
    });
  }

  private static void looksAt(int note, Consumer<Probehall> scene) {
    Class<IndexOutOfBoundsException> due = IndexOutOfBoundsException.class;
    CHECK.refused("the kind of " + note, due, scene, x -> x.kind(note));
    CHECK.refused("the begin of " + note, due, scene, x -> x.begin(note));
    CHECK.refused("the end of " + note, due, scene, x -> x.end(note));
    CHECK.refused("the value of " + note, due, scene, x -> x.value(note));
    CHECK.refused("the fault of " + note, due, scene, x -> x.fault(note));
  }

  private static void rate() {
    CHECK.says("10 times the shortest run of a wire but the first and the last one");
    CHECK.same("the least rate", Look.drawn("101").rate(0, 0), 10);
    CHECK.same("the greatest one", Look.drawn("0" + "1".repeat(398) + "0").rate(0, 0), 3980);
    CHECK.same("ends do not count", Look.drawn("01110001110").rate(0, 0), 30);
    CHECK.same("the first one does not", Look.drawn("0111000").rate(0, 0), 30);
    CHECK.same("the last one does not", Look.drawn("0001110").rate(0, 0), 30);
  }

  private static void set(int address, int register, int value) {
    Probehall x = new Probehall();
    x.idle(1, true);
    x.idle(3, true);
    x.twoWires(1, 3, address, false, register, value, 10, 1);
    x.capture(1, 0, 1, 100);
    x.decodeTwo(1, 1, 3);
    String where = address + " " + register;
    CHECK.same("the register " + where, x.register(address, register), value);
    int sum = 0;
    for (int other = 0; other < 16; other++) {
      sum += x.register(address, other);
    }
    for (int other : new int[] {0, 1, 2, 4, 5, 6, 63, 64, 126, 127}) {
      sum += other == address ? 0 : x.register(other, register);
    }
    CHECK.same("no other register, with " + where, sum, value);
  }

  private static void registers() {
    CHECK.says("sets the register that the first 'D' has in its lowest 4 bits, of the device with "
        + "this address, to the second one");
    int[] addresses = {0, 1, 64, 126, 127};
    int[] registers = {0, 1, 8, 14, 15};
    for (int address : addresses) {
      for (int register : registers) {
        set(address, register, 255);
        set(address, register, 1);
        set(address, register, 0);
      }
    }
    setsTo("S" + ADDRESS + REGISTER + VALUE, 129);
    setsTo("S" + ADDRESS + "111100110" + VALUE, 129);
    setsTo("S" + ADDRESS + "000100110" + VALUE, 129);
    setsTo("S" + ADDRESS + REGISTER + VALUE + "111111110", 129);
    setsTo("S" + ADDRESS + REGISTER + VALUE + "111111111", 129);
    setsTo("S" + ADDRESS + REGISTER + VALUE + "1S" + ADDRESS + REGISTER + "111111110", 255);
    setsTo("S" + ADDRESS + REGISTER + VALUE + "1S" + ADDRESS + REGISTER + "000000000", 0);
    setsTo("0E1S0E1S" + ADDRESS + REGISTER + VALUE + "0E", 129);
    CHECK.says("Registers are 0 at first, and stay.");
    Probehall x = new Probehall();
    drawTwo(x, "S" + ADDRESS + REGISTER + VALUE);
    CHECK.same("a register ahead of a decoding", x.register(5, 3), 0);
    x.decodeSerial(0, 1, 10, 'n');
    x.decodeFour(0, 1, 3, 2, 0);
    CHECK.same("a register behind other ones", x.register(5, 3), 0);
    x.decodeTwo(0, 1, 3);
    x.decodeTwo(1, 1, 3);
    x.decodeSerial(0, 1, 10, 'n');
    x.capture(0, 0, 1, 1);
    x.decodeTwo(0, 1, 3);
    CHECK.same("a register stays", x.register(5, 3), 129);
  }

  private static void setsTo(String text, int due) {
    Probehall x = new Probehall();
    drawTwo(x, text);
    x.decodeTwo(0, 1, 3);
    CHECK.same("the register by " + text, x.register(5, 3), due);
  }

  private static void registersNotSet() {
    CHECK.says("each byte 'A' that does not read, with two bytes 'D' behind it, ahead of another start "
        + "or end, none of the three being 'n'");
    setsTo("S" + "000010110" + REGISTER + VALUE + "0E", 0);
    setsTo("S" + ADDRESS, 0);
    setsTo("S" + ADDRESS + REGISTER, 0);
    setsTo("S" + ADDRESS + REGISTER + "10000001", 0);
    setsTo("S" + ADDRESS + REGISTER + "1000000" + "0E", 0);
    setsTo("S" + ADDRESS + REGISTER + "0E" + VALUE, 0);
    setsTo("S" + ADDRESS + REGISTER + "1S" + VALUE, 0);
    setsTo("S" + ADDRESS + "0E" + REGISTER + VALUE, 0);
    setsTo("S" + ADDRESS + "1S" + REGISTER + VALUE, 0);
    setsTo("E" + ADDRESS + REGISTER + VALUE, 0);
    setsTo(ADDRESS + REGISTER + VALUE + "0E", 0);
    setsTo("S" + "000010101" + REGISTER + VALUE, 0);
    setsTo("S" + ADDRESS + "000000111" + VALUE, 0);
    setsTo("S" + ADDRESS + REGISTER + "100000011", 0);
    setsTo("S" + ADDRESS + "000000111" + VALUE + VALUE, 0);
    setsTo("S" + ADDRESS + REGISTER + "100000011" + VALUE, 0);
    setsTo("S" + "000000000" + ADDRESS + REGISTER + VALUE, 0);
  }

  private static void registersOfUntoldBytes() {
    CHECK.says("That is so also of bytes that are not told any more, there being 200 notes.");
    Probehall x = new Probehall();
    x.idle(1, true);
    x.idle(3, true);
    Full.comb(x, 3, 2, 22);
    x.twoWires(1, 3, 127, false, 15, 255, 460, 2);
    x.answers(true, false);
    x.twoWires(1, 3, 127, false, 15, 1, 600, 2);
    x.capture(0, 0, 2, 400);
    CHECK.same("220 starts and ends, and bytes", x.decodeTwo(0, 1, 3), 200);
    CHECK.same("a register of bytes that are not told", x.register(127, 15), 255);
    CHECK.same("a register ahead of it", x.register(127, 14), 0);
    CHECK.same("they do not follow each other", x.follows(254, 15) + x.follows(15, 255), 0);
  }

  private static void registersRefused() {
    CHECK.says("if a number is out of range");
    int[][] wrong = {{-1, 0}, {128, 0}, {0, -1}, {0, 16}, {127, 16}, {-1, 16}, {0, 2047},
        {Integer.MAX_VALUE, 0}, {0, Integer.MIN_VALUE}};
    for (int[] numbers : wrong) {
      CHECK.badNumber("the register " + numbers[0] + " " + numbers[1],
          x -> x.register(numbers[0], numbers[1]));
    }
  }

  private static void follows() {
    CHECK.says("among notes without starts and ends, two that are neighbours then have the one and the "
        + "other value");
    Probehall x = new Probehall();
    CHECK.same("no notes", x.follows(0, 0) + x.follows(255, 255) + x.follows(0, 255), 0);
    drawTwo(x, "S" + "000000000");
    x.decodeTwo(0, 1, 3);
    CHECK.same("one byte", x.follows(0, 0), 0);
    Probehall two = new Probehall();
    drawTwo(two, "S" + "000000000" + "0E1S" + "111111110" + "1S" + "111111111" + "000000001");
    two.decodeTwo(0, 1, 3);
    CHECK.same("four bytes", two.follows(0, 255) + " " + two.follows(255, 255) + " "
        + two.follows(255, 0) + " " + two.follows(0, 0), "1 1 1 0");
    Probehall same = Look.drawn("1" + ("0" + "00000000" + "1").repeat(5));
    same.decodeSerial(0, 0, 10, 'n');
    CHECK.same("five alike", same.follows(0, 0), 4);
    for (int wrong : new int[] {-1, 256, Integer.MIN_VALUE, Integer.MAX_VALUE}) {
      CHECK.badNumber(wrong + " and 0", y -> y.follows(wrong, 0));
      CHECK.badNumber("0 and " + wrong, y -> y.follows(0, wrong));
    }
    Probehall starts = new Probehall();
    Full.notes(starts, 200);
    CHECK.same("200 starts and ends", starts.follows(0, 0), 0);
  }
}
