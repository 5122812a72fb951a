/** Looks at all that a bench has, and makes benches to be looked at. */
final class Look {
  private static final int[] ADDRESSES = {0, 3, 5, 64, 127};
  private static final int[] REGISTERS = {0, 3, 7, 15};

  private Look() {
  }

  /** A bench with something everywhere: flips, both captures, steps, notes, registers, a drift. */
  static void busyScene(Probehall x) {
    x.idle(0, true);
    x.idle(1, true);
    x.idle(2, true);
    x.answers(true, false);
    x.twoWires(0, 1, 3, false, 7, 99, 5, 1);
    x.answers(true, true);
    x.twoWires(0, 1, 5, false, 3, 129, 70, 1);
    x.capture(0, 0, 1, 150);
    x.decodeTwo(0, 0, 1);
    x.fourWires(3, 1, 2, 178, 200, 2, 0);
    x.capture(1, 60, 2, 90);
    x.step('f', 0, 2);
    x.step('h', 1, 3);
    x.drift(-7);
    x.answers(false, true);
  }

  static void emptyScene(Probehall x) {
  }

  /** Makes a wire have the levels of a text of 0 and 1 from the tick 0 on. */
  static void draw(Probehall x, int wire, String levels) {
    x.idle(wire, levels.charAt(0) == '1');
    for (int i = 1; i < levels.length(); i++) {
      if (levels.charAt(i) != levels.charAt(i - 1)) {
        x.flip(wire, i);
      }
    }
  }

  /** Draws a wire and takes the samples of just this. */
  static Probehall drawn(String levels) {
    Probehall x = new Probehall();
    draw(x, 0, levels);
    x.capture(0, 0, 1, levels.length());
    return x;
  }

  /** The levels of a wire at ticks, as a text of 0 and 1. */
  static String levels(Probehall x, int wire, int from, int many) {
    StringBuilder text = new StringBuilder();
    for (int i = 0; i < many; i++) {
      text.append(x.level(wire, from + i) ? '1' : '0');
    }
    return text.toString();
  }

  static String note(Probehall x, int note) {
    return "" + x.kind(note) + x.begin(note) + "-" + x.end(note) + "=" + x.value(note)
        + x.fault(note);
  }

  static String notes(Probehall x) {
    StringBuilder text = new StringBuilder();
    for (int i = 0; i < x.notes(); i++) {
      text.append(i == 0 ? "" : " ").append(note(x, i));
    }
    return text.toString();
  }

  /** All that can be seen of a bench; it is used up by this. */
  static String at(Probehall x) {
    StringBuilder text = new StringBuilder();
    text.append(x.checksum()).append(' ').append(x.flips()).append(' ').append(x.samples(0));
    text.append(' ').append(x.samples(1)).append(' ').append(x.notes());
    for (int i = 0; i < Math.min(10, x.notes()); i++) {
      text.append(' ').append(note(x, i));
    }
    for (int address : ADDRESSES) {
      for (int register : REGISTERS) {
        text.append(' ').append(x.register(address, register));
      }
    }
    text.append(' ').append(Check.answerOf(() -> x.trigger(0)));
    text.append(' ').append(Check.answerOf(() -> x.trigger(1)));
    text.append(' ').append(x.reset());
    addWires(text, x);
    text.append(' ').append(x.drift(0));
    text.append(' ').append(Check.answerOf(() -> x.twoWires(2, 3, 85, true, 5, 85, 9000, 3)));
    text.append(' ').append(x.answers(true, true));
    x.capture(0, 9000, 1, 200);
    text.append(' ').append(x.checksum());
    return text.toString();
  }

  /** Both captures together take each tick once. */
  private static void addWires(StringBuilder text, Probehall x) {
    for (int from = 0; from < 10000; from += 800) {
      x.capture(0, from, 1, 400);
      if (from + 400 < 10000) {
        x.capture(1, from + 400, 1, 400);
      }
      text.append(' ').append(x.checksum());
    }
    for (int wire = 0; wire < 4; wire++) {
      text.append(' ').append(x.idle(wire, false));
      text.append(' ').append(x.idle(wire, false));
    }
  }
}
