import java.util.ArrayList;
import java.util.Arrays;
import java.util.Comparator;
import java.util.HashMap;
import java.util.List;
import java.util.Map;
import java.util.NoSuchElementException;
import java.util.TreeSet;
import java.util.regex.Matcher;
import java.util.regex.Pattern;

/** The document once more, in another way: levels drawn tick by tick, decoders by texts. */
final class Model {
  private record Note(char kind, int begin, int end, int value, char fault) {
  }

  private record Step(char kind, int wire, int number) {
  }

  private final boolean[] idles = new boolean[4];
  private List<TreeSet<Integer>> flips = new ArrayList<>();
  private int drift;
  private boolean addressAnswered = true;
  private boolean othersAnswered = true;
  private final int[][] samples = new int[2][0];
  private final List<Step> steps = new ArrayList<>();
  private List<Note> notes = new ArrayList<>();
  private final Map<Integer, Integer> registers = new HashMap<>();

  Model() {
    for (int i = 0; i < 4; i++) {
      flips.add(new TreeSet<>());
    }
  }

  private static void bound(int... numbers) {
    for (int i = 0; i < numbers.length; i += 2) {
      if (numbers[i] < 0 || numbers[i] >= numbers[i + 1]) {
        throw new IndexOutOfBoundsException();
      }
    }
  }

  private static void within(int... numbers) {
    for (int i = 0; i < numbers.length; i += 3) {
      demand(numbers[i + 1] <= numbers[i] && numbers[i] <= numbers[i + 2]);
    }
  }

  private static void demand(boolean isSo) {
    if (!isSo) {
      throw new IllegalArgumentException();
    }
  }

  private static void state(boolean isSo) {
    if (!isSo) {
      throw new IllegalStateException();
    }
  }

  private static void there(boolean isSo) {
    if (!isSo) {
      throw new NoSuchElementException();
    }
  }

  private static void toggle(TreeSet<Integer> ticks, int tick) {
    if (!ticks.remove(tick)) {
      ticks.add(tick);
    }
  }

  private List<TreeSet<Integer>> copyOfFlips() {
    List<TreeSet<Integer>> copy = new ArrayList<>();
    for (TreeSet<Integer> ticks : flips) {
      copy.add(new TreeSet<>(ticks));
    }
    return copy;
  }

  /** Takes flips in place of those there, if they may be so. */
  private void take(List<TreeSet<Integer>> next) {
    for (TreeSet<Integer> ticks : next) {
      state(ticks.size() <= 300 && (ticks.isEmpty() || ticks.last() <= 9999));
    }
    flips = next;
  }

  private int tick(int at, int behind) {
    int later = Math.abs(behind * drift) / 1000;
    return at + behind + (drift < 0 ? -later : later);
  }

  /** The levels that are sent, one a tick as if without drift, the first one being that which idles. */
  private void send(List<TreeSet<Integer>> next, int wire, String levels, int at) {
    for (int i = 1; i < levels.length(); i++) {
      if (levels.charAt(i) != levels.charAt(i - 1)) {
        toggle(next.get(wire), tick(at, i - 1));
      }
    }
  }

  boolean idle(int wire, boolean isHigh) {
    bound(wire, 4);
    boolean before = idles[wire];
    idles[wire] = isHigh;
    return before;
  }

  int flip(int wire, int at) {
    bound(wire, 4);
    within(at, 0, 9999);
    List<TreeSet<Integer>> next = copyOfFlips();
    toggle(next.get(wire), at);
    take(next);
    return flips.get(wire).size();
  }

  boolean level(int wire, int at) {
    bound(wire, 4);
    within(at, 0, 9999);
    return idles[wire] ^ flips.get(wire).headSet(at, true).size() % 2 == 1;
  }

  int glitch(int wire, int at, int width) {
    bound(wire, 4);
    within(at, 0, 9999, width, 1, 99, at + width, 0, 9999);
    List<TreeSet<Integer>> next = copyOfFlips();
    toggle(next.get(wire), at);
    toggle(next.get(wire), at + width);
    take(next);
    return flips.get(wire).size();
  }

  int drift(int drift) {
    within(drift, -50, 50);
    int before = this.drift;
    this.drift = drift;
    return before;
  }

  private static String binary(int value, int digits) {
    String text = Integer.toBinaryString(value);
    return "0".repeat(digits - text.length()) + text;
  }

  private static boolean isOdd(String bits) {
    return bits.replace("0", "").length() % 2 == 1;
  }

  int serial(int wire, int value, int at, int bit, char parity) {
    bound(wire, 4);
    within(value, 0, 255, at, 0, 9999, bit, 2, 50);
    demand("neo".indexOf(parity) >= 0);
    String bits = new StringBuilder(binary(value, 8)).reverse().toString();
    if (parity != 'n') {
      bits += isOdd(bits) == (parity == 'e') ? "1" : "0";
    }
    StringBuilder levels = new StringBuilder("1");
    for (char sign : ("0" + bits + "1").toCharArray()) {
      levels.append(String.valueOf(sign).repeat(bit));
    }
    List<TreeSet<Integer>> next = copyOfFlips();
    send(next, wire, levels.toString(), at);
    take(next);
    return tick(at, levels.length() - 1);
  }

  boolean answers(boolean address, boolean others) {
    boolean before = addressAnswered & othersAnswered;
    addressAnswered = address;
    othersAnswered = others;
    return before;
  }

  int twoWires(int clock, int data, int address, boolean reads, int register, int value, int at,
      int half) {
    bound(clock, 4, data, 4);
    within(address, 0, 127, register, 0, 15, value, 0, 255, at, 0, 9999, half, 1, 50);
    demand(clock != data);
    String others = othersAnswered ? "0" : "1";
    String bits = binary(address, 7) + (reads ? "1" : "0") + (addressAnswered ? "0" : "1")
        + binary(register, 8) + others + binary(value, 8) + others;
    String low = "0".repeat(half);
    String high = "1".repeat(half);
    StringBuilder clockLevels = new StringBuilder("1" + high);
    StringBuilder dataLevels = new StringBuilder("1" + low);
    for (char sign : bits.toCharArray()) {
      clockLevels.append(low).append(high);
      dataLevels.append(sign == '1' ? high + high : low + low);
    }
    clockLevels.append(low).append(high).append("1");
    dataLevels.append(low).append(low).append("1");
    List<TreeSet<Integer>> next = copyOfFlips();
    send(next, clock, clockLevels.toString(), at);
    send(next, data, dataLevels.toString(), at);
    take(next);
    return tick(at, dataLevels.length() - 2);
  }

  int fourWires(int clock, int data, int select, int value, int at, int half, int mode) {
    bound(clock, 4, data, 4, select, 4);
    within(value, 0, 255, at, 0, 9999, half, 1, 50, mode, 0, 3);
    demand(clock != data && clock != select && data != select);
    String low = "0".repeat(half);
    String high = "1".repeat(half);
    String rest = mode < 2 ? low : high;
    String other = mode < 2 ? high : low;
    StringBuilder bits = new StringBuilder();
    for (char sign : binary(value, 8).toCharArray()) {
      bits.append(sign == '1' ? high + high : low + low);
    }
    String last = bits.substring(bits.length() - half);
    String dataLevels = "0" + (mode % 2 == 0 ? bits + last : low + bits) + "0";
    String clockLevels = rest.substring(0, 1) + rest + (other + rest).repeat(8);
    List<TreeSet<Integer>> next = copyOfFlips();
    send(next, clock, clockLevels, at);
    send(next, data, dataLevels, at);
    send(next, select, "1" + low.repeat(17) + "1", at);
    take(next);
    return tick(at, 17 * half);
  }

  int capture(int capture, int from, int step, int many) {
    bound(capture, 2);
    within(from, 0, 9999, step, 1, 99, many, 1, 400);
    within(from + (many - 1) * step, 0, 9999);
    int changes = 0;
    int[] taken = new int[many];
    for (int i = 0; i < many; i++) {
      for (int wire = 0; wire < 4; wire++) {
        taken[i] += level(wire, from + i * step) ? 1 << wire : 0;
      }
      changes += i > 0 && taken[i] != taken[i - 1] ? 1 : 0;
    }
    samples[capture] = taken;
    return changes;
  }

  int samples(int capture) {
    bound(capture, 2);
    return samples[capture].length;
  }

  int sample(int capture, int sample) {
    bound(capture, 2);
    there(sample >= 0 && sample < samples[capture].length);
    return samples[capture][sample];
  }

  /** The levels of a wire at all samples, as a text of 0 and 1. */
  private String text(int capture, int wire) {
    bound(capture, 2, wire, 4);
    StringBuilder text = new StringBuilder();
    for (int levels : samples[capture]) {
      text.append(levels / (1 << wire) % 2);
    }
    return text.toString();
  }

  private List<Integer> lengths(int capture, int wire) {
    List<Integer> lengths = new ArrayList<>();
    Matcher matcher = Pattern.compile("0+|1+").matcher(text(capture, wire));
    while (matcher.find()) {
      lengths.add(matcher.end() - matcher.start());
    }
    return lengths;
  }

  int runs(int capture, int wire) {
    return lengths(capture, wire).size();
  }

  int run(int capture, int wire, int run) {
    List<Integer> lengths = lengths(capture, wire);
    there(run >= 0 && run < lengths.size());
    return lengths.get(run);
  }

  int shortest(int capture, int wire) {
    List<Integer> lengths = lengths(capture, wire);
    there(lengths.size() > 2);
    return lengths.subList(1, lengths.size() - 1).stream().min(Comparator.naturalOrder()).get();
  }

  char block(int capture, int wire, int degree, int block) {
    String text = text(capture, wire);
    within(degree, 0, 9);
    long from = block * (1L << degree);
    there(block >= 0 && from < text.length());
    int first = (int) from;
    int behind = Math.min(text.length(), first + (1 << degree));
    String part = text.substring(Math.max(0, first - 1), behind);
    return part.indexOf('1') < 0 ? '0' : part.indexOf('0') < 0 ? '1' : 'x';
  }

  int step(char kind, int wire, int number) {
    if (kind != 'p' && kind != 't') {
      bound(wire, 4);
    }
    demand("rfhlpt".indexOf(kind) >= 0);
    demand(kind == 'p' ? number >= 0 && number <= 15 : number >= 1 && number <= 400);
    state(steps.size() < 6);
    steps.add(new Step(kind, wire, number));
    return steps.size();
  }

  int reset() {
    int before = steps.size();
    steps.clear();
    return before;
  }

  int trigger(int capture) {
    bound(capture, 2);
    if (steps.isEmpty()) {
      throw new UnsupportedOperationException();
    }
    int from = 0;
    for (Step step : steps) {
      int met = from;
      while (met < samples[capture].length && !isMet(step, capture, from, met)) {
        met++;
      }
      there(met < samples[capture].length);
      from = met + 1;
    }
    return from - 1;
  }

  /** Whether a step that looks from a sample on is met at another, or ahead of it. */
  private boolean isMet(Step step, int capture, int from, int at) {
    if (step.kind == 't') {
      return at - from + 1 >= step.number;
    }
    if (step.kind == 'p') {
      return samples[capture][at] == step.number;
    }
    String text = text(capture, step.wire);
    String looked = text.substring(from, at + 1);
    if (step.kind == 'h') {
      return looked.endsWith("1".repeat(step.number));
    }
    if (step.kind == 'l') {
      return looked.endsWith("0".repeat(step.number));
    }
    String edge = step.kind == 'r' ? "01" : "10";
    int edges = 0;
    for (int i = Math.max(1, from); i <= at; i++) {
      edges += text.startsWith(edge, i - 1) ? 1 : 0;
    }
    return edges >= step.number;
  }

  int decodeSerial(int capture, int wire, int tenths, char parity) {
    String text = text(capture, wire);
    within(tenths, 10, 999);
    demand("neo".indexOf(parity) >= 0);
    notes = new ArrayList<>();
    int last = parity == 'n' ? 9 : 10;
    int fall = text.indexOf("10") + 1;
    while (fall > 0 && fall + (2 * last + 1) * tenths / 20 < text.length()) {
      StringBuilder bits = new StringBuilder();
      for (int n = 0; n <= last; n++) {
        bits.append(text.charAt(fall + (2 * n + 1) * tenths / 20));
      }
      int behind = fall;
      if (bits.charAt(0) == '0') {
        int end = fall + (2 * last + 1) * tenths / 20;
        boolean isWrong = parity != 'n' && isOdd(bits.substring(1, 10)) != (parity == 'o');
        int value = Integer.parseInt(new StringBuilder(bits.substring(1, 9)).reverse().toString(), 2);
        tell(new Note('B', fall, end, value, isWrong ? 'p' : bits.charAt(last) == '0' ? 'f' : '-'));
        behind = end;
      }
      fall = text.indexOf("10", behind) + 1;
    }
    return notes.size();
  }

  private void tell(Note note) {
    if (notes.size() < 200) {
      notes.add(note);
    }
  }

  int decodeTwo(int capture, int clock, int data) {
    String clocks = text(capture, clock);
    String datas = text(capture, data);
    demand(clock != data);
    notes = new ArrayList<>();
    StringBuilder events = new StringBuilder();
    List<Integer> at = new ArrayList<>();
    for (int i = 1; i < clocks.length(); i++) {
      String clockPair = clocks.substring(i - 1, i + 1);
      String dataPair = datas.substring(i - 1, i + 1);
      if (clockPair.equals("01")) {
        events.append(datas.charAt(i));
        at.add(i);
      } else if (clockPair.equals("11") && !dataPair.equals("00") && !dataPair.equals("11")) {
        events.append(dataPair.equals("10") ? 'S' : 'E');
        at.add(i);
      }
    }
    Matcher matcher = Pattern.compile("([SE])([01]*)").matcher(events);
    while (matcher.find()) {
      int sample = at.get(matcher.start());
      tell(new Note(matcher.group(1).charAt(0), sample, sample, 0, '-'));
      if (matcher.group(1).equals("S")) {
        tellBytes(matcher.group(2), at.subList(matcher.start() + 1, matcher.end()));
      }
    }
    return notes.size();
  }

  private void tellBytes(String bits, List<Integer> at) {
    List<Note> bytes = new ArrayList<>();
    for (int i = 0; i + 9 <= bits.length(); i += 9) {
      bytes.add(new Note(i == 0 ? 'A' : 'D', at.get(i), at.get(i + 8),
          Integer.parseInt(bits.substring(i, i + 8), 2), bits.charAt(i + 8) == '1' ? 'n' : '-'));
    }
    bytes.forEach(this::tell);
    if (bytes.size() >= 3 && bytes.get(0).value % 2 == 0
        && bytes.subList(0, 3).stream().allMatch(note -> note.fault == '-')) {
      int place = bytes.get(0).value / 2 * 16 + bytes.get(1).value % 16;
      registers.put(place, bytes.get(2).value);
    }
  }

  int decodeFour(int capture, int clock, int data, int select, int mode) {
    String clocks = text(capture, clock);
    String datas = text(capture, data);
    String selects = text(capture, select);
    demand(clock != data && clock != select && data != select);
    within(mode, 0, 3);
    notes = new ArrayList<>();
    String edge = mode == 0 || mode == 3 ? "01" : "10";
    String bits = "";
    List<Integer> at = new ArrayList<>();
    for (int i = 1; i < clocks.length(); i++) {
      if (selects.startsWith("00", i - 1) && clocks.startsWith(edge, i - 1)) {
        bits += datas.charAt(i);
        at.add(i);
      }
      boolean isCut = selects.startsWith("01", i - 1) && !bits.isEmpty();
      if (isCut || bits.length() == 8) {
        tell(new Note('B', at.get(0), i, Integer.parseInt(bits, 2), isCut ? 's' : '-'));
        bits = "";
        at.clear();
      }
    }
    return notes.size();
  }

  int notes() {
    return notes.size();
  }

  private Note note(int note) {
    bound(note, notes.size());
    return notes.get(note);
  }

  char kind(int note) {
    return note(note).kind;
  }

  int begin(int note) {
    return note(note).begin;
  }

  int end(int note) {
    return note(note).end;
  }

  int value(int note) {
    return note(note).value;
  }

  char fault(int note) {
    return note(note).fault;
  }

  int rate(int capture, int wire) {
    return shortest(capture, wire) * 10;
  }

  int register(int address, int register) {
    within(address, 0, 127, register, 0, 15);
    return registers.getOrDefault(address * 16 + register, 0);
  }

  int follows(int one, int other) {
    within(one, 0, 255, other, 0, 255);
    List<Integer> values = new ArrayList<>();
    for (Note note : notes) {
      if ("SE".indexOf(note.kind) < 0) {
        values.add(note.value);
      }
    }
    int pairs = 0;
    for (int i = 1; i < values.size(); i++) {
      pairs += values.subList(i - 1, i + 1).equals(List.of(one, other)) ? 1 : 0;
    }
    return pairs;
  }

  /** The samples of the capture 0 that have one beside them, like or unlike. */
  private List<Integer> beside(int offset, boolean areAlike) {
    List<Integer> result = new ArrayList<>();
    int behind = Math.min(samples[0].length, samples[1].length - offset);
    for (int i = Math.max(0, -offset); i < behind; i++) {
      if ((samples[0][i] == samples[1][i + offset]) == areAlike) {
        result.add(i);
      }
    }
    return result;
  }

  int alike(int offset) {
    within(offset, -399, 399);
    return beside(offset, true).size();
  }

  int differs(int offset) {
    within(offset, -399, 399);
    List<Integer> unlike = beside(offset, false);
    there(!unlike.isEmpty());
    return unlike.get(0);
  }

  int best(int bound) {
    within(bound, 0, 99);
    if (samples[0].length == 0 || samples[1].length == 0) {
      throw new UnsupportedOperationException();
    }
    List<Integer> offsets = new ArrayList<>();
    for (int offset = -bound; offset <= bound; offset++) {
      offsets.add(offset);
    }
    offsets.sort(Comparator.comparingInt((Integer offset) -> -alike(offset))
        .thenComparingInt(Math::abs).thenComparingInt(offset -> offset));
    return offsets.get(0);
  }

  int flips() {
    return flips.stream().mapToInt(TreeSet::size).sum();
  }

  long checksum() {
    List<Integer> parts = new ArrayList<>();
    for (int[] levels : samples) {
      Arrays.stream(levels).forEach(parts::add);
    }
    for (Note note : notes) {
      parts.add((int) note.kind);
      parts.add(note.value);
    }
    long sum = 7;
    for (int part : parts) {
      sum = 31 * sum + part;
    }
    return sum;
  }

  float highShare(int capture, int wire) {
    String text = text(capture, wire);
    there(!text.isEmpty());
    return (float) text.replace("0", "").length() / (float) text.length();
  }

  double meanRun(int capture, int wire) {
    List<Integer> lengths = lengths(capture, wire);
    there(!lengths.isEmpty());
    return (double) samples[capture].length / (double) lengths.size();
  }

  boolean isSound() {
    return true;
  }
}
