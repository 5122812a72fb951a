/** Makes benches that are full, or have just so much. */
final class Full {
  private Full() {
  }

  /** Gives a wire so many flips, by twos at the ticks 4 and 5, 8 and 9, and so on; an odd one alone. */
  static void flips(Probehall x, int wire, int many) {
    for (int i = 1; i <= many / 2; i++) {
      x.glitch(wire, 4 * i, 1);
    }
    if (many % 2 == 1) {
      x.flip(wire, 4 * (many / 2 + 1));
    }
  }

  /** Makes all wires have 300 flips, in some 150 calls. */
  static void allWires(Probehall x) {
    for (int clock = 0; clock < 4; clock += 2) {
      for (int i = 0; i < 3; i++) {
        x.twoWires(clock, clock + 1, 85, false, 5, 85, 1000 + 200 * i, 1);
        x.twoWires(clock + 1, clock, 85, false, 5, 85, 2000 + 200 * i, 1);
      }
    }
    for (int wire = 0; wire < 4; wire++) {
      int many = 0;
      for (int tick = 4; many < 299 && tick < 1000; tick += 4) {
        many = x.glitch(wire, tick, 1);
      }
      if (many == 299) {
        x.flip(wire, 9000);
      }
    }
  }

  /**
   * Makes a wire flip at each second tick, from a tick on: bytes of ten bits that are all unlike the
   * one ahead, ten flips each.
   */
  static void comb(Probehall x, int wire, int from, int bytes) {
    for (int i = 0; i < bytes; i++) {
      x.serial(wire, 0x55, from + 20 * i, 2, 'n');
    }
  }

  /** Makes 400 samples of the capture 0, of which the wire 1 changes at so many, from the second one on. */
  static void changes(Probehall x, int many) {
    comb(x, 1, 2, many / 10);
    for (int i = 0; i < many % 10; i++) {
      x.flip(1, 2 + 20 * (many / 10) + 2 * i);
    }
    x.capture(0, 0, 2, 400);
  }

  /** Makes so many notes, starts and ends by turns, in the first of so many samples. */
  static void notes(Probehall x, int many) {
    x.idle(0, true);
    x.idle(1, true);
    changes(x, many);
    x.decodeTwo(0, 0, 1);
  }

  static void steps(Probehall x) {
    for (int i = 0; i < 6; i++) {
      x.step('t', 0, 1);
    }
  }

  /** 400 samples of each capture, of a wire that is high for a while. */
  static void captures(Probehall x) {
    x.glitch(0, 100, 90);
    x.glitch(3, 200, 5);
    x.capture(0, 0, 1, 400);
    x.capture(1, 7, 2, 400);
  }
}
