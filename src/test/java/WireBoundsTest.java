/** The bounds of promises 1 to 6 and 8: a new bench, wires, ticks, flips, glitches, the drift. */
public final class WireBoundsTest {
  private static final Check CHECK = new Check("WireBoundsTest");

  private WireBoundsTest() {
  }

  public static void main(String[] args) {
    newObject();
    wires();
    ticks();
    mostFlips();
    flipsWhereOneIs();
    allWiresFull();
    glitchWidths();
    glitchEnds();
    glitchOfNearlyFullWires();
    drift();
    answers();
    lastCall();
    CHECK.finish();
  }

  private static void newObject() {
    CHECK.says("Creates a bench whose wires are low, without flips, samples and notes.");
    for (int wire = 0; wire < 4; wire++) {
      Probehall x = new Probehall();
      CHECK.same("a new wire " + wire, x.level(wire, 0) || x.level(wire, 9999), false);
      CHECK.same("its first flip", x.flip(wire, 0), 1);
      CHECK.same("its idling", new Probehall().idle(wire, false), false);
    }
    CHECK.same("new runs", new Probehall().runs(0, 0) + new Probehall().runs(1, 3), 0);
    CHECK.says("There are the captures 0 and 1, without samples at first.");
    CHECK.same("new samples", new Probehall().samples(0) + new Probehall().samples(1), 0);
    CHECK.says("Registers are 0 at first");
    Probehall x = new Probehall();
    int sum = 0;
    for (int address = 0; address < 128; address += 127) {
      for (int register = 0; register < 16; register++) {
        sum += x.register(address, register);
      }
    }
    CHECK.same("new registers", sum, 0);
  }

  private static void wires() {
    CHECK.says("There are the wires 0 to 3, each low or high at first, low before that is told");
    for (int wire = 0; wire < 4; wire++) {
      Probehall x = new Probehall();
      CHECK.same("idle of the wire " + wire, x.idle(wire, true), false);
      CHECK.same("flip of the wire " + wire, x.flip(wire, 9), 1);
      CHECK.same("glitch of the wire " + wire, x.glitch(wire, 20, 1), 3);
      StringBuilder levels = new StringBuilder();
      for (int other = 0; other < 4; other++) {
        levels.append(x.level(other, 8) ? 1 : 0).append(x.level(other, 9) ? 1 : 0);
      }
      CHECK.same("levels of all wires", levels.toString(),
          "00".repeat(wire) + "10" + "00".repeat(3 - wire));
      CHECK.same("told again", x.idle(wire, true), true);
      CHECK.same("told otherwise", x.idle(wire, false), true);
      CHECK.same("told otherwise before", x.idle(wire, false), false);
      CHECK.same("flips stay", x.flips(), 3);
    }
  }

  private static void ticks() {
    CHECK.says("flips at ticks, 0 to 9999");
    Probehall x = new Probehall();
    CHECK.same("a flip at the tick 0", x.flip(0, 0), 1);
    CHECK.same("changes the level from its tick on", Look.levels(x, 0, 0, 3), "111");
    CHECK.same("up to the last tick", x.level(0, 9999), true);
    CHECK.same("a flip at the tick 9999", x.flip(0, 9999), 2);
    CHECK.same("changes that tick alone", Look.levels(x, 0, 9996, 4), "1110");
    CHECK.same("another one at the tick 9998", x.flip(0, 9998), 3);
    CHECK.same("its levels", Look.levels(x, 0, 9996, 4), "1101");
    CHECK.says("a flip changes the level from its tick on; two at one tick are none");
    CHECK.same("two at the tick 9999", x.flip(0, 9999), 2);
    CHECK.same("are none", Look.levels(x, 0, 9996, 4), "1100");
    CHECK.same("two at the tick 0", x.flip(0, 0), 1);
    CHECK.same("are none", Look.levels(x, 0, 0, 2) + Look.levels(x, 0, 9997, 3), "00011");
    CHECK.same("two at the tick 9998", x.flip(0, 9998), 0);
    CHECK.same("three at a tick are one", x.flip(0, 7) + x.flip(0, 7) + x.flip(0, 7), 2);
    CHECK.same("its level", Look.levels(x, 0, 6, 2), "01");
  }

  private static void mostFlips() {
    CHECK.says("at most 300");
    CHECK.says("if it has 300, and none there");
    for (int wire = 0; wire < 4; wire++) {
      int line = wire;
      Probehall x = new Probehall();
      Full.flips(x, wire, 299);
      CHECK.same("the flip 300 of the wire " + wire, x.flip(wire, 9999), 300);
      CHECK.same("level behind 300 flips", x.level(wire, 9998) + " " + x.level(wire, 9999),
          "true false");
      for (int tick : new int[] {0, 3, 7, 9999}) {
        CHECK.refused("the flip 301 at " + tick, IllegalStateException.class,
            y -> Full.flips(y, line, 300), y -> y.flip(line, tick));
      }
    }
    Probehall early = new Probehall();
    Full.flips(early, 2, 299);
    CHECK.same("the flip 300 ahead of all others", early.flip(2, 0), 300);
    CHECK.same("turns all levels", Look.levels(early, 2, 0, 10), "1111011101");
  }

  private static void flipsWhereOneIs() {
    CHECK.says("if it has 300, and none there");
    for (int tick : new int[] {4, 5, 300, 601}) {
      Probehall x = new Probehall();
      Full.flips(x, 1, 300);
      CHECK.same("a flip of a full wire where one is, at " + tick, x.flip(1, tick), 299);
      CHECK.same("a flip there again", x.flip(1, tick), 300);
    }
    Probehall x = new Probehall();
    Full.flips(x, 1, 300);
    for (int i = 1; i <= 150; i++) {
      x.flip(1, 4 * i);
      CHECK.same("flips are taken away", x.flip(1, 4 * i + 1), 300 - 2 * i);
    }
    CHECK.same("a wire without flips again", x.level(1, 9999), false);
  }

  private static void allWiresFull() {
    CHECK.says("Returns how many flips there are on all wires.");
    Probehall x = new Probehall();
    CHECK.same("no flips", x.flips(), 0);
    Full.allWires(x);
    CHECK.same("all wires full", x.flips(), 1200);
    for (int wire = 0; wire < 4; wire++) {
      int line = wire;
      CHECK.refused("a flip of four full wires", IllegalStateException.class, Full::allWires,
          y -> y.flip(line, 9998));
      CHECK.refused("a glitch of four full wires", IllegalStateException.class, Full::allWires,
          y -> y.glitch(line, 9800, 99));
      CHECK.refused("a byte of four full wires", IllegalStateException.class, Full::allWires,
          y -> y.serial(line, 255, 9500, 20, 'n'));
      CHECK.same("a flip where one is", x.flip(wire, 4), 299);
    }
    CHECK.refused("two of four full wires", IllegalStateException.class, Full::allWires,
        y -> y.twoWires(2, 1, 5, false, 3, 129, 5000, 2));
    CHECK.refused("three of four full wires", IllegalStateException.class, Full::allWires,
        y -> y.fourWires(3, 1, 2, 0, 5000, 2, 0));
    CHECK.same("a flip fewer of each", x.flips(), 1196);
    CHECK.same("idle of a full wire", x.idle(3, true), false);
    CHECK.same("levels of a full wire", Look.levels(x, 3, 3, 4), "1100");
    CHECK.same("capture of full wires", x.capture(0, 3, 1, 4), 1);
  }

  private static void glitchWidths() {
    CHECK.says("how many ticks it lasts, 1 to 99");
    Probehall x = new Probehall();
    CHECK.same("a glitch of 1 tick", x.glitch(2, 50, 1), 2);
    CHECK.same("its levels", Look.levels(x, 2, 49, 3), "010");
    CHECK.same("a glitch of 99 ticks", x.glitch(2, 100, 99), 4);
    CHECK.same("its begin", Look.levels(x, 2, 98, 4), "0011");
    CHECK.same("its end", Look.levels(x, 2, 197, 4), "1100");
    CHECK.badNumber("a glitch of 0 ticks", y -> y.glitch(2, 100, 0));
    CHECK.badNumber("a glitch of 100 ticks", y -> y.glitch(2, 100, 100));
    CHECK.badNumber("a glitch of -1 ticks", y -> y.glitch(2, 100, -1));
    Probehall drifting = new Probehall();
    drifting.drift(50);
    drifting.glitch(0, 100, 99);
    drifting.flip(0, 9000);
    CHECK.same("a glitch does not drift", Look.levels(drifting, 0, 197, 4), "1100");
    CHECK.same("a flip does not drift", Look.levels(drifting, 0, 8999, 2), "01");
  }

  private static void glitchEnds() {
    CHECK.says("if a number is out of range, or it would end behind 9999");
    for (int width : new int[] {1, 2, 98, 99}) {
      Probehall x = new Probehall();
      CHECK.same("a glitch of " + width + " up to 9999", x.glitch(0, 9999 - width, width), 2);
      CHECK.same("its levels", x.level(0, 9998 - width) + " " + x.level(0, 9999 - width) + " "
          + x.level(0, 9998) + " " + x.level(0, 9999), "false true true false");
      CHECK.badNumber("a glitch of " + width + " up to 10000",
          y -> y.glitch(0, 10000 - width, width));
      CHECK.refused("a glitch of a full wire up to 10000", IllegalArgumentException.class,
          y -> Full.flips(y, 0, 300), y -> y.glitch(0, 10000 - width, width));
    }
    Probehall x = new Probehall();
    CHECK.same("a glitch at the tick 0", x.glitch(1, 0, 99), 2);
    CHECK.same("its levels", Look.levels(x, 1, 97, 3), "110");
    CHECK.badNumber("a glitch at the tick -1", y -> y.glitch(1, -1, 99));
    CHECK.badNumber("a glitch at the tick 10000", y -> y.glitch(1, 10000, 1));
  }

  private static void glitchOfNearlyFullWires() {
    CHECK.says("if there would be more than 300");
    Probehall x = new Probehall();
    Full.flips(x, 0, 298);
    CHECK.same("a glitch that makes 300", x.glitch(0, 9000, 5), 300);
    CHECK.same("the same takes two away", x.glitch(0, 9000, 5), 298);
    Probehall odd = new Probehall();
    Full.flips(odd, 0, 299);
    CHECK.same("a glitch that begins where one is", odd.glitch(0, 4, 99), 299);
    CHECK.same("a glitch that ends where one is", odd.glitch(0, 3, 2), 299);
    for (int many = 299; many <= 300; many++) {
      int flips = many;
      for (int tick : new int[] {0, 2000, 9900}) {
        CHECK.refused("a glitch of " + many + " flips at " + tick, IllegalStateException.class,
            y -> Full.flips(y, 3, flips), y -> y.glitch(3, tick, 2));
      }
    }
    Probehall full = new Probehall();
    Full.flips(full, 3, 300);
    CHECK.same("a glitch of a full wire, one there and one not", full.glitch(3, 5, 1), 300);
    CHECK.same("a glitch of a full wire, one not there and one", full.glitch(3, 3, 1), 300);
    CHECK.same("a glitch of a full wire, both there", full.glitch(3, 8, 1), 298);
  }

  private static void drift() {
    CHECK.says("by the drift, -50 to 50 thousandths, 0 at first");
    Probehall x = new Probehall();
    CHECK.same("the drift at first, and 50", x.drift(50), 0);
    CHECK.same("the drift 50, and -50", x.drift(-50), 50);
    CHECK.same("the drift -50, and -1", x.drift(-1), -50);
    CHECK.same("the drift -1, and 1", x.drift(1), -1);
    CHECK.same("the drift 1, and 0", x.drift(0), 1);
    CHECK.same("the drift 0", x.drift(0), 0);
    for (int wrong : new int[] {51, -51, Integer.MAX_VALUE, Integer.MIN_VALUE}) {
      CHECK.badNumber("the drift " + wrong, y -> y.drift(wrong));
    }
  }

  private static void answers() {
    CHECK.says("Tells which answers are given, at first all.");
    CHECK.says("Returns whether all were given before.");
    boolean[] both = {true, false};
    for (boolean address : both) {
      for (boolean others : both) {
        Probehall x = new Probehall();
        CHECK.same("answers at first", x.answers(address, others), true);
        CHECK.same("answers " + address + " " + others, x.answers(true, true),
            address && others);
        CHECK.same("answers told anew", x.answers(false, false), true);
      }
    }
  }

  private static void lastCall() {
    CHECK.says("An object is used for at most 512 calls after it has been made");
    Probehall x = new Probehall();
    for (int call = 1; call <= 511; call++) {
      x.flip(call % 2, call);
    }
    CHECK.same("the call 512", x.flips(), 511);
  }
}
