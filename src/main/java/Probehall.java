import java.util.Arrays;
import java.util.NoSuchElementException;

/**
 * A bench that looks at wires: senders and glitches make flips of them, captures take samples, and
 * runs, blocks, triggers and decoders look at the samples.
 */
public final class Probehall {
  private static final int WIRES = 4;
  private static final int CAPTURES = 2;
  private static final int LAST_TICK = 9999;
  private static final int MOST_FLIPS = 300;
  private static final int MOST_SAMPLES = 400;
  private static final int MOST_STEPS = 6;
  private static final int MOST_NOTES = 200;
  private static final int DEVICES = 128;
  private static final int REGISTERS = 16;
  private static final int MOST_OFFSET = 399;
  private static final int MOST_DEGREE = 9;

  /** Room for what one call sends over one wire; the dearest, the clock of two wires, has 56 flips. */
  private static final int MOST_SENT = 64;

  /** An address, a register and a value, each with its answer. */
  private static final int TWO_WIRES_BITS = 27;

  private static final char NO_FAULT = '-';

  private final Wire[] wires;
  private final Capture[] captures;
  private final Trigger program;
  private final Notes told;
  private final Devices devices;
  private int thousandths;
  private boolean isAddressAnswered;
  private boolean areOthersAnswered;

  public Probehall() {
    wires = new Wire[WIRES];
    for (int i = 0; i < wires.length; i++) {
      wires[i] = new Wire();
    }
    captures = new Capture[CAPTURES];
    for (int i = 0; i < captures.length; i++) {
      captures[i] = new Capture();
    }
    program = new Trigger();
    told = new Notes();
    devices = new Devices();
    isAddressAnswered = true;
    areOthersAnswered = true;
  }

  // Wires and senders.

  public boolean idle(int wire, boolean isHigh) throws IndexOutOfBoundsException {
    checkWire(wire);
    boolean before = wires[wire].isHighFirst;
    wires[wire].isHighFirst = isHigh;
    return before;
  }

  public int flip(int wire, int at)
      throws IndexOutOfBoundsException, IllegalArgumentException, IllegalStateException {
    checkWire(wire);
    checkRange(at, 0, LAST_TICK);
    Wire flipped = wires[wire];
    flipped.beginSending(false);
    flipped.addSent(at);
    checkFlips(flipped.takesSent());
    flipped.flipSent();
    return flipped.count;
  }

  public boolean level(int wire, int at)
      throws IndexOutOfBoundsException, IllegalArgumentException {
    checkWire(wire);
    checkRange(at, 0, LAST_TICK);
    return wires[wire].isHighAt(at);
  }

  public int glitch(int wire, int at, int width)
      throws IndexOutOfBoundsException, IllegalArgumentException, IllegalStateException {
    checkWire(wire);
    checkRange(at, 0, LAST_TICK);
    checkRange(width, 1, 99);
    checkRange(at + width, 0, LAST_TICK);
    Wire flipped = wires[wire];
    flipped.beginSending(false);
    flipped.addSent(at);
    flipped.addSent(at + width);
    checkFlips(flipped.takesSent());
    flipped.flipSent();
    return flipped.count;
  }

  public int drift(int drift) throws IllegalArgumentException {
    checkRange(drift, -50, 50);
    int before = thousandths;
    thousandths = drift;
    return before;
  }

  public int serial(int wire, int value, int at, int bit, char parity)
      throws IndexOutOfBoundsException, IllegalArgumentException, IllegalStateException {
    checkWire(wire);
    checkRange(value, 0, 255);
    checkRange(at, 0, LAST_TICK);
    checkRange(bit, 2, 50);
    checkParity(parity);
    Wire line = wires[wire];
    int bits = serialBits(parity);
    int word = serialWord(value, parity);
    line.beginSending(true);
    for (int n = 0; n < bits; n++) {
      line.send(hasBit(word, n), tickBehind(at, n * bit));
    }
    checkFlips(line.takesSent());
    line.flipSent();
    return tickBehind(at, bits * bit);
  }

  public boolean answers(boolean address, boolean others) {
    boolean before = isAddressAnswered && areOthersAnswered;
    isAddressAnswered = address;
    areOthersAnswered = others;
    return before;
  }

  public int twoWires(int clock, int data, int address, boolean reads, int register, int value,
      int at, int half)
      throws IndexOutOfBoundsException, IllegalArgumentException, IllegalStateException {
    checkWire(clock);
    checkWire(data);
    checkRange(address, 0, DEVICES - 1);
    checkRange(register, 0, REGISTERS - 1);
    checkRange(value, 0, 255);
    checkRange(at, 0, LAST_TICK);
    checkRange(half, 1, 50);
    checkApart(clock, data);
    int word = answeredByte(address * 2 + (reads ? 1 : 0), isAddressAnswered);
    word = word << 9 | answeredByte(register, areOthersAnswered);
    word = word << 9 | answeredByte(value, areOthersAnswered);
    planTwoWires(wires[clock], wires[data], word, at, half);
    checkFlips(wires[clock].takesSent() && wires[data].takesSent());
    wires[clock].flipSent();
    wires[data].flipSent();
    return tickBehind(at, (2 * TWO_WIRES_BITS + 3) * half);
  }

  public int fourWires(int clock, int data, int select, int value, int at, int half, int mode)
      throws IndexOutOfBoundsException, IllegalArgumentException, IllegalStateException {
    checkWire(clock);
    checkWire(data);
    checkWire(select);
    checkRange(value, 0, 255);
    checkRange(at, 0, LAST_TICK);
    checkRange(half, 1, 50);
    checkRange(mode, 0, 3);
    checkThreeApart(clock, data, select);
    int end = tickBehind(at, 17 * half);
    planSelect(wires[select], at, end);
    planFourClock(wires[clock], at, half, mode >= 2);
    planFourData(wires[data], value, at, half, mode % 2 == 1);
    checkFlips(wires[clock].takesSent() && wires[data].takesSent() && wires[select].takesSent());
    wires[clock].flipSent();
    wires[data].flipSent();
    wires[select].flipSent();
    return end;
  }

  // Captures.

  public int capture(int capture, int from, int step, int many)
      throws IndexOutOfBoundsException, IllegalArgumentException {
    checkCapture(capture);
    checkRange(from, 0, LAST_TICK);
    checkRange(step, 1, 99);
    checkRange(many, 1, MOST_SAMPLES);
    checkRange(from + step * (many - 1), 0, LAST_TICK);
    Capture taken = captures[capture];
    taken.clearFor(many);
    for (int wire = 0; wire < wires.length; wire++) {
      wires[wire].showIn(taken, 1 << wire, from, step);
    }
    return taken.changeCount();
  }

  public int samples(int capture) throws IndexOutOfBoundsException {
    checkCapture(capture);
    return captures[capture].count;
  }

  public int sample(int capture, int sample)
      throws IndexOutOfBoundsException, NoSuchElementException {
    checkCapture(capture);
    checkThere(captures[capture].has(sample));
    return captures[capture].levelsAt(sample);
  }

  public int runs(int capture, int wire) throws IndexOutOfBoundsException {
    checkCapture(capture);
    checkWire(wire);
    return captures[capture].runCount(wire);
  }

  public int run(int capture, int wire, int run)
      throws IndexOutOfBoundsException, NoSuchElementException {
    checkCapture(capture);
    checkWire(wire);
    int length = captures[capture].runLength(wire, run);
    checkThere(length > 0);
    return length;
  }

  public int shortest(int capture, int wire)
      throws IndexOutOfBoundsException, NoSuchElementException {
    return shortestRunOf(capture, wire);
  }

  public char block(int capture, int wire, int degree, int block)
      throws IndexOutOfBoundsException, IllegalArgumentException, NoSuchElementException {
    checkCapture(capture);
    checkWire(wire);
    checkRange(degree, 0, MOST_DEGREE);
    Capture taken = captures[capture];
    checkThere(block >= 0 && block < taken.blockCount(degree));
    return taken.blockSign(wire, degree, block);
  }

  public int step(char kind, int wire, int number)
      throws IndexOutOfBoundsException, IllegalArgumentException, IllegalStateException {
    if (kind != 'p' && kind != 't') {
      checkWire(wire);
    }
    checkStepKind(kind);
    checkRange(number, kind == 'p' ? 0 : 1, kind == 'p' ? 15 : 400);
    checkFreeStep();
    program.addStep(kind, wire, number);
    return program.count;
  }

  public int reset() {
    int before = program.count;
    program.count = 0;
    return before;
  }

  public int trigger(int capture)
      throws IndexOutOfBoundsException, UnsupportedOperationException, NoSuchElementException {
    checkCapture(capture);
    checkUse(program.count > 0);
    int met = program.metIn(captures[capture]);
    checkThere(met >= 0);
    return met;
  }

  // Decoding.

  public int decodeSerial(int capture, int wire, int tenths, char parity)
      throws IndexOutOfBoundsException, IllegalArgumentException {
    checkCapture(capture);
    checkWire(wire);
    checkRange(tenths, 10, 999);
    checkParity(parity);
    told.count = 0;
    Capture taken = captures[capture];
    int next = 1;
    for (int i = 1; i < taken.count; i++) {
      if (i >= next && taken.fallsAt(wire, i)) {
        next = tellSerial(taken, wire, i, tenths, parity);
      }
    }
    return told.count;
  }

  public int decodeTwo(int capture, int clock, int data)
      throws IndexOutOfBoundsException, IllegalArgumentException {
    checkCapture(capture);
    checkWire(clock);
    checkWire(data);
    checkApart(clock, data);
    told.count = 0;
    Capture taken = captures[capture];
    TwoReader reader = new TwoReader(told, devices);
    for (int i = 1; i < taken.count; i++) {
      if (taken.risesAt(clock, i)) {
        reader.takeBit(taken.isHighAt(data, i), i);
      } else if (taken.isHighAt(clock, i) && taken.fallsAt(data, i)) {
        reader.takeStart(i);
      } else if (taken.isHighAt(clock, i) && taken.risesAt(data, i)) {
        reader.takeEnd(i);
      }
    }
    return told.count;
  }

  public int decodeFour(int capture, int clock, int data, int select, int mode)
      throws IndexOutOfBoundsException, IllegalArgumentException {
    checkCapture(capture);
    checkWire(clock);
    checkWire(data);
    checkWire(select);
    checkThreeApart(clock, data, select);
    checkRange(mode, 0, 3);
    told.count = 0;
    Capture taken = captures[capture];
    boolean isAtRise = mode == 0 || mode == 3;
    FourReader reader = new FourReader(told);
    for (int i = 1; i < taken.count; i++) {
      if (taken.risesAt(select, i)) {
        reader.takeSelectRise(i);
      } else if (!taken.isHighAt(select, i) && !taken.isHighAt(select, i - 1)
          && (isAtRise ? taken.risesAt(clock, i) : taken.fallsAt(clock, i))) {
        reader.takeBit(taken.isHighAt(data, i), i);
      }
    }
    return told.count;
  }

  public int notes() {
    return told.count;
  }

  public char kind(int note) throws IndexOutOfBoundsException {
    checkNote(note);
    return told.kinds[note];
  }

  public int begin(int note) throws IndexOutOfBoundsException {
    checkNote(note);
    return told.begins[note];
  }

  public int end(int note) throws IndexOutOfBoundsException {
    checkNote(note);
    return told.ends[note];
  }

  public int value(int note) throws IndexOutOfBoundsException {
    checkNote(note);
    return told.values[note];
  }

  public char fault(int note) throws IndexOutOfBoundsException {
    checkNote(note);
    return told.faults[note];
  }

  public int rate(int capture, int wire)
      throws IndexOutOfBoundsException, NoSuchElementException {
    return 10 * shortestRunOf(capture, wire);
  }

  public int register(int address, int register) throws IllegalArgumentException {
    checkRange(address, 0, DEVICES - 1);
    checkRange(register, 0, REGISTERS - 1);
    return devices.read(address, register);
  }

  public int follows(int one, int other) throws IllegalArgumentException {
    checkRange(one, 0, 255);
    checkRange(other, 0, 255);
    return told.pairCount(one, other);
  }

  // Laying beside.

  public int alike(int offset) throws IllegalArgumentException {
    checkRange(offset, -MOST_OFFSET, MOST_OFFSET);
    return alikeCount(offset);
  }

  public int differs(int offset) throws IllegalArgumentException, NoSuchElementException {
    checkRange(offset, -MOST_OFFSET, MOST_OFFSET);
    int sample = firstUnlike(offset);
    checkThere(sample >= 0);
    return sample;
  }

  public int best(int bound) throws IllegalArgumentException, UnsupportedOperationException {
    checkRange(bound, 0, 99);
    checkUse(captures[0].count > 0 && captures[1].count > 0);
    int bestOffset = 0;
    int most = alikeCount(0);
    for (int size = 1; size <= bound; size++) {
      int below = alikeCount(-size);
      if (below > most) {
        most = below;
        bestOffset = -size;
      }
      int above = alikeCount(size);
      if (above > most) {
        most = above;
        bestOffset = size;
      }
    }
    return bestOffset;
  }

  // Sums.

  public int flips() {
    int all = 0;
    for (int i = 0; i < wires.length; i++) {
      all += wires[i].count;
    }
    return all;
  }

  public long checksum() {
    long sum = 7;
    for (int i = 0; i < captures.length; i++) {
      for (int sample = 0; sample < captures[i].count; sample++) {
        sum = 31 * sum + captures[i].levelsAt(sample);
      }
    }
    for (int note = 0; note < told.count && note < MOST_NOTES; note++) {
      sum = 31 * sum + told.kinds[note];
      sum = 31 * sum + told.values[note];
    }
    return sum;
  }

  public float highShare(int capture, int wire)
      throws IndexOutOfBoundsException, NoSuchElementException {
    checkCapture(capture);
    checkWire(wire);
    Capture taken = captures[capture];
    checkThere(taken.count > 0);
    return (float) taken.highCount(wire) / (float) taken.count;
  }

  public double meanRun(int capture, int wire)
      throws IndexOutOfBoundsException, NoSuchElementException {
    checkCapture(capture);
    checkWire(wire);
    Capture taken = captures[capture];
    int lengths = taken.runCount(wire);
    checkThere(lengths > 0);
    return (double) taken.count / (double) lengths;
  }

  public boolean isSound() {
    for (int i = 0; i < captures.length; i++) {
      for (int wire = 0; wire < WIRES; wire++) {
        if (!captures[i].areRunsWhole(wire) || !captures[i].areChangesSeen(wire)) {
          return false;
        }
      }
    }
    return told.areInOrder();
  }

  // What the calls demand of their arguments and of the bench.

  private static void checkWire(int wire) {
    if (wire < 0 || wire >= WIRES) {
      throw new IndexOutOfBoundsException("no such wire");
    }
  }

  private static void checkCapture(int capture) {
    if (capture < 0 || capture >= CAPTURES) {
      throw new IndexOutOfBoundsException("no such capture");
    }
  }

  private void checkNote(int note) {
    if (note < 0 || note >= told.count || note >= MOST_NOTES) {
      throw new IndexOutOfBoundsException("no such note");
    }
  }

  private static void checkRange(int number, int least, int most) {
    if (number < least || number > most) {
      throw new IllegalArgumentException("a number is out of range");
    }
  }

  private static void checkParity(char parity) {
    if (parity != 'n' && parity != 'e' && parity != 'o') {
      throw new IllegalArgumentException("no such parity");
    }
  }

  private static void checkApart(int one, int other) {
    if (one == other) {
      throw new IllegalArgumentException("two wires are the same");
    }
  }

  private static void checkThreeApart(int clock, int data, int select) {
    checkApart(clock, data);
    checkApart(clock, select);
    checkApart(data, select);
  }

  private static void checkStepKind(char kind) {
    if (kind != 'r' && kind != 'f' && kind != 'h' && kind != 'l' && kind != 'p' && kind != 't') {
      throw new IllegalArgumentException("no such kind");
    }
  }

  private void checkFreeStep() {
    if (program.count >= MOST_STEPS) {
      throw new IllegalStateException("the trigger has all its steps");
    }
  }

  private static void checkFlips(boolean areTaken) {
    if (!areTaken) {
      throw new IllegalStateException("a flip is behind the last tick, or there are too many");
    }
  }

  private static void checkThere(boolean isThere) {
    if (!isThere) {
      throw new NoSuchElementException("there is none");
    }
  }

  private static void checkUse(boolean isOfUse) {
    if (!isOfUse) {
      throw new UnsupportedOperationException("there is nothing to look at");
    }
  }

  // How senders make flips.

  private static boolean hasBit(int word, int bit) {
    return (word >> bit & 1) == 1;
  }

  /** The tick that comes a while behind a beginning; the division cuts toward 0, as the drift does. */
  private int tickBehind(int beginning, int behind) {
    return beginning + behind + behind * thousandths / 1000;
  }

  private static int serialBits(char parity) {
    return parity == 'n' ? 10 : 11;
  }

  /** The parity that makes the highs of a value even or odd in number. */
  private static int parityOf(int value, char parity) {
    int odd = Integer.bitCount(value) & 1;
    return parity == 'o' ? 1 - odd : odd;
  }

  /** The bits of a serial byte, the one that is sent first being the lowest. */
  private static int serialWord(int value, char parity) {
    int word = value << 1;
    if (parity != 'n') {
      word |= parityOf(value, parity) << 9;
    }
    return word | 1 << serialBits(parity) - 1;
  }

  private static int answeredByte(int value, boolean isAnswered) {
    return value << 1 | (isAnswered ? 0 : 1);
  }

  private void planTwoWires(Wire clock, Wire data, int word, int at, int half) {
    clock.beginSending(true);
    data.beginSending(true);
    data.send(false, at);
    clock.send(false, tickBehind(at, half));
    for (int n = 0; n < TWO_WIRES_BITS; n++) {
      int low = (2 * n + 1) * half;
      data.send(hasBit(word, TWO_WIRES_BITS - 1 - n), tickBehind(at, low));
      clock.send(true, tickBehind(at, low + half));
      clock.send(false, tickBehind(at, low + 2 * half));
    }
    int last = (2 * TWO_WIRES_BITS + 1) * half;
    data.send(false, tickBehind(at, last));
    clock.send(true, tickBehind(at, last + half));
    data.send(true, tickBehind(at, last + 2 * half));
  }

  private static void planSelect(Wire select, int at, int end) {
    select.beginSending(true);
    select.send(false, at);
    select.send(true, end);
  }

  private void planFourClock(Wire clock, int at, int half, boolean idlesHigh) {
    clock.beginSending(idlesHigh);
    for (int k = 0; k < 8; k++) {
      clock.send(!idlesHigh, tickBehind(at, (2 * k + 1) * half));
      clock.send(idlesHigh, tickBehind(at, (2 * k + 2) * half));
    }
  }

  private void planFourData(Wire data, int value, int at, int half, boolean isLater) {
    data.beginSending(false);
    for (int k = 0; k < 8; k++) {
      data.send(hasBit(value, 7 - k), tickBehind(at, (isLater ? 2 * k + 1 : 2 * k) * half));
    }
    data.send(false, tickBehind(at, 17 * half));
  }

  // How captures are looked at.

  private int shortestRunOf(int capture, int wire) {
    checkCapture(capture);
    checkWire(wire);
    int length = captures[capture].shortestInner(wire);
    checkThere(length > 0);
    return length;
  }

  /** Tells the serial byte of a fall, if it is one, and answers the first sample to go on with. */
  private int tellSerial(Capture taken, int wire, int fall, int tenths, char parity) {
    int bits = serialBits(parity);
    int end = middleOf(fall, bits - 1, tenths);
    if (end >= taken.count || taken.isHighAt(wire, middleOf(fall, 0, tenths))) {
      return fall + 1;
    }
    int value = 0;
    for (int n = 0; n < 8; n++) {
      if (taken.isHighAt(wire, middleOf(fall, n + 1, tenths))) {
        value |= 1 << n;
      }
    }
    char wrong = NO_FAULT;
    boolean isParityHigh = taken.isHighAt(wire, middleOf(fall, 9, tenths));
    if (parity != 'n' && isParityHigh != (parityOf(value, parity) == 1)) {
      wrong = 'p';
    } else if (!taken.isHighAt(wire, end)) {
      wrong = 'f';
    }
    told.tell('B', fall, end, value, wrong);
    return end + 1;
  }

  private static int middleOf(int fall, int bit, int tenths) {
    return fall + (2 * bit + 1) * tenths / 20;
  }

  private int alikeCount(int offset) {
    int alikes = 0;
    for (int i = 0; i < captures[0].count; i++) {
      if (captures[1].has(i + offset)
          && captures[0].levelsAt(i) == captures[1].levelsAt(i + offset)) {
        alikes++;
      }
    }
    return alikes;
  }

  /** The first sample of the capture 0 with an unlike one beside it, -1 if there is none. */
  private int firstUnlike(int offset) {
    for (int i = 0; i < captures[0].count; i++) {
      if (captures[1].has(i + offset)
          && captures[0].levelsAt(i) != captures[1].levelsAt(i + offset)) {
        return i;
      }
    }
    return -1;
  }

  /**
   * A wire: its flips by rising ticks, and beside them those that a call is about to make, so that
   * a call that makes too many changes nothing.
   */
  private static final class Wire {
    boolean isHighFirst;
    int count;

    /** Longer than what may stay, as some flips may go in before others are taken out. */
    private final int[] ticks;

    private boolean isSentHigh;
    private int sentCount;
    private final int[] sent;

    Wire() {
      ticks = new int[MOST_FLIPS + MOST_SENT];
      sent = new int[MOST_SENT];
    }

    /** How many flips come ahead of a tick. */
    private int countAhead(int tick) {
      int ahead = 0;
      for (int i = 0; i < count && i < ticks.length; i++) {
        if (ticks[i] < tick) {
          ahead++;
        }
      }
      return ahead;
    }

    private boolean hasFlip(int tick) {
      int place = countAhead(tick);
      return place < count && place < ticks.length && ticks[place] == tick;
    }

    boolean isHighAt(int tick) {
      return isHighFirst != (countAhead(tick + 1) % 2 == 1);
    }

    void beginSending(boolean idlesHigh) {
      isSentHigh = idlesHigh;
      sentCount = 0;
    }

    /** Has a level sent from a tick on; ticks come in their order. */
    void send(boolean isHigh, int tick) {
      if (isHigh != isSentHigh) {
        isSentHigh = isHigh;
        addSent(tick);
      }
    }

    /** A drift may bring two flips to one tick, where they are none. */
    void addSent(int tick) {
      int last = sentCount - 1;
      if (last >= 0 && last < sent.length && sent[last] == tick) {
        sentCount = last;
      } else if (sentCount >= 0 && sentCount < sent.length) {
        sent[sentCount] = tick;
        sentCount++;
      }
    }

    boolean takesSent() {
      int after = count;
      for (int i = 0; i < sentCount && i < sent.length; i++) {
        if (sent[i] > LAST_TICK) {
          return false;
        }
        after += hasFlip(sent[i]) ? -1 : 1;
      }
      return after <= MOST_FLIPS;
    }

    void flipSent() {
      for (int i = 0; i < sentCount && i < sent.length; i++) {
        flipAt(sent[i]);
      }
    }

    private void flipAt(int tick) {
      if (hasFlip(tick)) {
        takeOut(countAhead(tick));
      } else {
        putIn(countAhead(tick), tick);
      }
    }

    private void takeOut(int place) {
      for (int i = place + 1; i > 0 && i < count && i < ticks.length; i++) {
        ticks[i - 1] = ticks[i];
      }
      count--;
    }

    private void putIn(int place, int tick) {
      if (place < 0 || place > count || count >= ticks.length) {
        return;
      }
      for (int i = count; i > place; i--) {
        ticks[i] = ticks[i - 1];
      }
      ticks[place] = tick;
      count++;
    }

    void showIn(Capture taken, int bit, int from, int step) {
      boolean isHigh = isHighFirst;
      int next = 0;
      for (int i = 0; i < taken.count; i++) {
        int tick = from + i * step;
        while (next < count && next < ticks.length && ticks[next] <= tick) {
          isHigh = !isHigh;
          next++;
        }
        if (isHigh) {
          taken.addLevel(i, bit);
        }
      }
    }
  }

  /** The samples of a capture, each with the levels of all wires as bits. */
  private static final class Capture {
    int count;
    private final int[] levels;

    Capture() {
      levels = new int[MOST_SAMPLES];
    }

    void clearFor(int many) {
      Arrays.fill(levels, 0);
      count = Math.min(many, levels.length);
    }

    void addLevel(int sample, int bit) {
      if (has(sample)) {
        levels[sample] |= bit;
      }
    }

    boolean has(int sample) {
      return sample >= 0 && sample < count && sample < levels.length;
    }

    int levelsAt(int sample) {
      return has(sample) ? levels[sample] : 0;
    }

    boolean isHighAt(int wire, int sample) {
      return has(sample) && (levels[sample] >> wire & 1) == 1;
    }

    /** The first sample is never a change, as there is none ahead of it. */
    boolean changesAt(int wire, int sample) {
      return sample > 0 && isHighAt(wire, sample) != isHighAt(wire, sample - 1);
    }

    boolean risesAt(int wire, int sample) {
      return sample > 0 && isHighAt(wire, sample) && !isHighAt(wire, sample - 1);
    }

    boolean fallsAt(int wire, int sample) {
      return sample > 0 && !isHighAt(wire, sample) && isHighAt(wire, sample - 1);
    }

    int changeCount() {
      int changes = 0;
      for (int i = 1; i < count; i++) {
        if (levelsAt(i) != levelsAt(i - 1)) {
          changes++;
        }
      }
      return changes;
    }

    int highCount(int wire) {
      int highs = 0;
      for (int i = 0; i < count; i++) {
        if (isHighAt(wire, i)) {
          highs++;
        }
      }
      return highs;
    }

    int runCount(int wire) {
      int begun = count > 0 ? 1 : 0;
      for (int i = 1; i < count; i++) {
        if (changesAt(wire, i)) {
          begun++;
        }
      }
      return begun;
    }

    /** How long a run is, 0 if there is none. */
    int runLength(int wire, int run) {
      int current = 0;
      int length = 0;
      for (int i = 0; i < count; i++) {
        if (changesAt(wire, i)) {
          current++;
        }
        if (current == run) {
          length++;
        }
      }
      return length;
    }

    /** The shortest run between the first and the last one, 0 if there is none. */
    int shortestInner(int wire) {
      int least = 0;
      int begun = 0;
      for (int i = 1; i < count; i++) {
        if (changesAt(wire, i)) {
          int length = i - begun;
          if (begun > 0 && (least == 0 || length < least)) {
            least = length;
          }
          begun = i;
        }
      }
      return least;
    }

    int blockCount(int degree) {
      return count + (1 << degree) - 1 >> degree;
    }

    char blockSign(int wire, int degree, int block) {
      int first = block << degree;
      int behind = Math.min(count, first + (1 << degree));
      for (int i = first; i < behind; i++) {
        if (changesAt(wire, i)) {
          return 'x';
        }
      }
      return isHighAt(wire, first) ? '1' : '0';
    }

    boolean areRunsWhole(int wire) {
      int sum = 0;
      int begun = 0;
      for (int i = 1; i < count; i++) {
        if (changesAt(wire, i)) {
          sum += i - begun;
          begun = i;
        }
      }
      return sum + (count - begun) == count;
    }

    boolean areChangesSeen(int wire) {
      for (int degree = 0; degree <= MOST_DEGREE; degree++) {
        if (!areChangesSeenBy(wire, degree)) {
          return false;
        }
      }
      return true;
    }

    /** Each block is looked at once, not once for each of its changes, as those may be many. */
    private boolean areChangesSeenBy(int wire, int degree) {
      int inBlock = (1 << degree) - 1;
      char sign = 'x';
      for (int i = 0; i < count; i++) {
        if ((i & inBlock) == 0) {
          sign = blockSign(wire, degree, i >> degree);
        }
        if (sign != 'x' && changesAt(wire, i)) {
          return false;
        }
      }
      return true;
    }
  }

  /** The steps of a trigger, which are met one behind the other. */
  private static final class Trigger {
    int count;
    private final char[] kinds;
    private final int[] lines;
    private final int[] numbers;

    Trigger() {
      kinds = new char[MOST_STEPS];
      lines = new int[MOST_STEPS];
      numbers = new int[MOST_STEPS];
    }

    void addStep(char kind, int wire, int number) {
      if (count < 0 || count >= MOST_STEPS) {
        return;
      }
      kinds[count] = kind;
      lines[count] = wire;
      numbers[count] = number;
      count++;
    }

    /** The sample at which the last step is met, -1 if it is not. */
    int metIn(Capture taken) {
      int met = -1;
      for (int i = 0; i < count && i < MOST_STEPS; i++) {
        met = stepMetIn(taken, met + 1, kinds[i], lines[i], numbers[i]);
        if (met < 0) {
          return -1;
        }
      }
      return met;
    }

    private static int stepMetIn(Capture taken, int from, char kind, int wire, int number) {
      boolean isRow = kind == 'h' || kind == 'l';
      int due = kind == 'p' ? 1 : number;
      int hits = 0;
      for (int i = from; i < taken.count; i++) {
        if (isHit(taken, i, kind, wire, number)) {
          hits++;
        } else if (isRow) {
          hits = 0;
        }
        if (hits >= due) {
          return i;
        }
      }
      return -1;
    }

    private static boolean isHit(Capture taken, int sample, char kind, int wire, int number) {
      if (kind == 'r') {
        return taken.risesAt(wire, sample);
      }
      if (kind == 'f') {
        return taken.fallsAt(wire, sample);
      }
      if (kind == 'h') {
        return taken.isHighAt(wire, sample);
      }
      if (kind == 'l') {
        return !taken.isHighAt(wire, sample);
      }
      return kind == 't' || taken.levelsAt(sample) == number;
    }
  }

  /** What a decoder told. */
  private static final class Notes {
    int count;
    final char[] kinds;
    final int[] begins;
    final int[] ends;
    final int[] values;
    final char[] faults;

    Notes() {
      kinds = new char[MOST_NOTES];
      begins = new int[MOST_NOTES];
      ends = new int[MOST_NOTES];
      values = new int[MOST_NOTES];
      faults = new char[MOST_NOTES];
    }

    void tell(char kind, int begin, int end, int value, char fault) {
      if (count < 0 || count >= MOST_NOTES) {
        return;
      }
      kinds[count] = kind;
      begins[count] = begin;
      ends[count] = end;
      values[count] = value;
      faults[count] = fault;
      count++;
    }

    int pairCount(int one, int other) {
      int pairs = 0;
      int ahead = -1;
      for (int i = 0; i < count && i < MOST_NOTES; i++) {
        if (kinds[i] != 'S' && kinds[i] != 'E') {
          if (ahead == one && values[i] == other) {
            pairs++;
          }
          ahead = values[i];
        }
      }
      return pairs;
    }

    boolean areInOrder() {
      for (int i = 0; i < count && i < MOST_NOTES; i++) {
        if (begins[i] > ends[i] || (i > 0 && begins[i] < begins[i - 1])) {
          return false;
        }
      }
      return true;
    }
  }

  /** The registers of all devices. */
  private static final class Devices {
    private final int[] registers;

    Devices() {
      registers = new int[DEVICES * REGISTERS];
    }

    int read(int address, int index) {
      int place = address * REGISTERS + index;
      return place >= 0 && place < registers.length ? registers[place] : 0;
    }

    void write(int address, int index, int number) {
      int place = address * REGISTERS + index;
      if (place >= 0 && place < registers.length) {
        registers[place] = number;
      }
    }
  }

  /** Makes notes of what comes over two wires, and fills registers, even when no note has room. */
  private static final class TwoReader {
    private final Notes notes;
    private final Devices devices;
    private boolean isStarted;
    private int bits;
    private int word;
    private int firstBit;
    private int bytes;
    private boolean isWriting;
    private int address;
    private int target;

    TwoReader(Notes notes, Devices devices) {
      this.notes = notes;
      this.devices = devices;
    }

    void takeStart(int sample) {
      notes.tell('S', sample, sample, 0, NO_FAULT);
      isStarted = true;
      bits = 0;
      bytes = 0;
    }

    void takeEnd(int sample) {
      notes.tell('E', sample, sample, 0, NO_FAULT);
      isStarted = false;
    }

    void takeBit(boolean isHigh, int sample) {
      if (!isStarted) {
        return;
      }
      if (bits == 0) {
        firstBit = sample;
        word = 0;
      }
      word = word << 1 | (isHigh ? 1 : 0);
      bits++;
      if (bits == 9) {
        takeByte(word >> 1, (word & 1) == 0, sample);
        bits = 0;
      }
    }

    private void takeByte(int number, boolean isAnswered, int sample) {
      notes.tell(bytes == 0 ? 'A' : 'D', firstBit, sample, number, isAnswered ? NO_FAULT : 'n');
      if (bytes == 0) {
        isWriting = isAnswered && (number & 1) == 0;
        address = number >> 1;
      } else if (bytes == 1) {
        isWriting = isWriting && isAnswered;
        target = number & REGISTERS - 1;
      } else if (bytes == 2 && isWriting && isAnswered) {
        devices.write(address, target, number);
      }
      bytes++;
    }
  }

  /** Makes notes of what comes over four wires. */
  private static final class FourReader {
    private final Notes notes;
    private int bits;
    private int word;
    private int firstBit;

    FourReader(Notes notes) {
      this.notes = notes;
    }

    void takeBit(boolean isHigh, int sample) {
      if (bits == 0) {
        firstBit = sample;
        word = 0;
      }
      word = word << 1 | (isHigh ? 1 : 0);
      bits++;
      if (bits == 8) {
        notes.tell('B', firstBit, sample, word, NO_FAULT);
        bits = 0;
      }
    }

    void takeSelectRise(int sample) {
      if (bits > 0) {
        notes.tell('B', firstBit, sample, word, 's');
      }
      bits = 0;
    }
  }
}
