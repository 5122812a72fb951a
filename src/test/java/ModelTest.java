import java.lang.reflect.InvocationTargetException;
import java.lang.reflect.Method;
import java.util.ArrayList;
import java.util.Arrays;
import java.util.HashMap;
import java.util.List;
import java.util.Map;
import java.util.Random;

/** Long runs of calls, the same ones each time, answered by the bench and by the model alike. */
public final class ModelTest {
  private static final Check CHECK = new Check("ModelTest");
  private static final int RUNS = 1200;
  private static final int CALLS = 510;

  /** Each call with how often it comes, and its arguments by their kinds. */
  private static final String[] CALLS_BY_KINDS = {
      "2 idle wire flag", "5 flip wire near", "2 level wire near", "4 glitch wire near width",
      "3 drift drift", "9 serial wire byte tick bit parity", "3 answers mostly mostly",
      "9 twoWires clock data address flag index byte tick half",
      "9 fourWires clock data select byte tick half mode", "14 capture capture from stride many",
      "1 samples capture", "2 sample capture sample", "2 runs capture wire",
      "3 run capture wire few", "2 shortest capture wire", "4 block capture wire degree block",
      "9 step kind wire number", "2 reset", "9 trigger capture",
      "9 decodeSerial capture wire tenths parity", "12 decodeTwo capture clock data",
      "12 decodeFour capture clock data select mode", "1 notes", "2 kind note", "2 begin note",
      "2 end note", "2 value note", "3 fault note", "3 rate capture wire",
      "3 register address index", "2 follows byte byte", "2 alike offset", "2 differs offset",
      "2 best bound", "1 flips", "6 checksum", "1 highShare capture wire",
      "1 meanRun capture wire", "1 isSound"};

  private static final Map<String, int[]> RANGES = new HashMap<>();

  static {
    RANGES.put("wire", new int[] {0, 3});
    RANGES.put("clock", new int[] {0, 3});
    RANGES.put("data", new int[] {0, 3});
    RANGES.put("select", new int[] {0, 3});
    RANGES.put("capture", new int[] {0, 1});
    RANGES.put("tick", new int[] {0, 9999});
    RANGES.put("near", new int[] {0, 9999});
    RANGES.put("from", new int[] {0, 9999});
    RANGES.put("stride", new int[] {1, 99});
    RANGES.put("many", new int[] {1, 400});
    RANGES.put("sample", new int[] {0, 399});
    RANGES.put("width", new int[] {1, 99});
    RANGES.put("drift", new int[] {-50, 50});
    RANGES.put("byte", new int[] {0, 255});
    RANGES.put("bit", new int[] {2, 50});
    RANGES.put("address", new int[] {0, 127});
    RANGES.put("index", new int[] {0, 15});
    RANGES.put("half", new int[] {1, 50});
    RANGES.put("mode", new int[] {0, 3});
    RANGES.put("few", new int[] {0, 12});
    RANGES.put("degree", new int[] {0, 9});
    RANGES.put("block", new int[] {0, 9});
    RANGES.put("number", new int[] {1, 400});
    RANGES.put("tenths", new int[] {10, 999});
    RANGES.put("note", new int[] {0, 199});
    RANGES.put("offset", new int[] {-399, 399});
    RANGES.put("bound", new int[] {0, 99});
  }

  /** What is drawn mostly, so that what is sent is also seen. */
  private static final Map<String, int[]> MOSTLY = new HashMap<>();

  static {
    MOSTLY.put("tick", new int[] {0, 300});
    MOSTLY.put("near", new int[] {0, 300});
    MOSTLY.put("from", new int[] {0, 120});
    MOSTLY.put("stride", new int[] {1, 3});
    MOSTLY.put("many", new int[] {100, 400});
    MOSTLY.put("bit", new int[] {2, 8});
    MOSTLY.put("half", new int[] {1, 4});
    MOSTLY.put("width", new int[] {1, 5});
    MOSTLY.put("address", new int[] {0, 3});
    MOSTLY.put("index", new int[] {0, 3});
    MOSTLY.put("byte", new int[] {0, 7});
    MOSTLY.put("tenths", new int[] {10, 80});
    MOSTLY.put("note", new int[] {0, 9});
    MOSTLY.put("number", new int[] {1, 5});
    MOSTLY.put("offset", new int[] {-40, 40});
    MOSTLY.put("bound", new int[] {0, 12});
  }

  private final Random random;
  private final Map<String, Method> benchCalls = new HashMap<>();
  private final Map<String, Method> modelCalls = new HashMap<>();
  private final List<String> weighted = new ArrayList<>();
  private final int[] roles = {0, 1, 2};
  private final int edges;
  private final Map<String, Integer> answers;

  /** Whether senders come one behind the other, and behind which tick the next one comes. */
  private final boolean isTidy;
  private int cursor;

  private ModelTest(int seed, Map<String, Integer> answers) {
    random = new Random(seed);
    this.answers = answers;
    edges = random.nextInt(4) == 0 ? 8 : 1;
    isTidy = random.nextInt(4) != 0;
    for (Method method : Probehall.class.getDeclaredMethods()) {
      benchCalls.put(method.getName(), method);
    }
    for (Method method : Model.class.getDeclaredMethods()) {
      if (!method.isSynthetic() && !java.lang.reflect.Modifier.isPrivate(method.getModifiers())) {
        modelCalls.put(method.getName(), method);
      }
    }
    String favoured = List.of("twoWires decodeTwo", "fourWires decodeFour", "serial decodeSerial",
        "flip glitch decodeTwo", "").get(random.nextInt(5));
    for (String call : CALLS_BY_KINDS) {
      String[] words = call.split(" ");
      int times = Integer.parseInt(words[0]) * (favoured.contains(words[1]) ? 3 : 1);
      for (int i = 0; i < times; i++) {
        weighted.add(call.substring(words[0].length() + 1));
      }
    }
  }

  public static void main(String[] args) {
    Map<String, Integer> answers = new HashMap<>();
    for (int seed = 0; seed < RUNS; seed++) {
      new ModelTest(seed, answers).run(seed);
    }
    everyCallAnswersAndRefuses(answers);
    CHECK.finish();
  }

  /** The runs would be worth little if they met only refusals, or only one kind of note. */
  private static void everyCallAnswersAndRefuses(Map<String, Integer> answers) {
    for (String call : CALLS_BY_KINDS) {
      String name = call.split(" ")[1];
      CHECK.same("many answers of " + name, answers.getOrDefault(name, 0) > 200, true);
    }
    for (String kind : "B S E A D".split(" ")) {
      CHECK.same("notes " + kind, answers.getOrDefault("kind=" + kind, 0) > 50, true);
    }
    for (String fault : "p f n s -".split(" ")) {
      CHECK.same("faults " + fault, answers.getOrDefault("fault=" + fault, 0) > 20, true);
    }
    CHECK.same("a register that is set", answers.getOrDefault("register=3", 0) > 9, true);
    CHECK.same("a full decoding", answers.getOrDefault("decodeTwo=200", 0) > 0, true);
    CHECK.same("a full wire", answers.getOrDefault("flip=300", 0) > 0, true);
  }

  private void run(int seed) {
    Probehall bench = new Probehall();
    Model model = new Model();
    StringBuilder said = new StringBuilder();
    List<Object[]> calls = calls();
    for (Object[] call : calls) {
      String name = (String) call[0];
      Object[] args = Arrays.copyOfRange(call, 1, call.length);
      said.append(name).append(Arrays.toString(args)).append("; ");
      String due = answerOf(modelCalls.get(name), model, args);
      String got = answerOf(benchCalls.get(name), bench, args);
      count(name, due);
      if (!got.equals(due)) {
        CHECK.same("run " + seed + ": " + said, got, due);
        return;
      }
    }
    CHECK.same("run " + seed, model.checksum(), bench.checksum());
  }

  private List<Object[]> calls() {
    List<Object[]> calls = new ArrayList<>();
    shuffleRoles();
    if (random.nextInt(5) != 0) {
      for (int role : roles) {
        calls.add(new Object[] {"idle", role, true});
      }
    }
    if (random.nextInt(8) == 0) {
      addComb(calls);
    }
    int many = random.nextInt(3) == 0 ? CALLS : Math.min(CALLS, calls.size() + 90);
    while (calls.size() < many) {
      Object[] call = call(weighted.get(random.nextInt(weighted.size())).split(" "));
      calls.add(call);
      cursor += ticksOf(call);
      if (((String) call[0]).startsWith("decode") && calls.size() + 5 <= many) {
        for (String name : "kind begin end value fault".split(" ")) {
          calls.add(new Object[] {name, random.nextInt(4)});
        }
      }
    }
    return calls;
  }

  /** How many ticks the cursor goes on behind a call, so that senders mostly keep apart. */
  private int ticksOf(Object[] call) {
    int ticks = switch ((String) call[0]) {
      case "serial" -> 11 * (int) call[4];
      case "twoWires" -> 57 * (int) call[8];
      case "fourWires" -> 17 * (int) call[6];
      default -> 0;
    };
    return isSeldom(25) || ticks < 0 || ticks > 2000 ? 0 : ticks;
  }

  private Object[] call(String[] words) {
    Object[] call = new Object[words.length];
    call[0] = words[0];
    for (int i = 1; i < call.length; i++) {
      call[i] = argument(words[i]);
    }
    return call;
  }

  /** Flips of the wire of data at each tick, so that it has the most, and notes are the most. */
  private void addComb(List<Object[]> calls) {
    int many = random.nextBoolean() ? 301 : 190 + random.nextInt(20);
    for (int i = 1; i <= many; i++) {
      calls.add(new Object[] {"flip", roles[1], i});
    }
    calls.add(new Object[] {"twoWires", roles[0], roles[1], 1, false, 2, 3, many + 3, 1});
    calls.add(new Object[] {"capture", 0, 0, 1, 400});
    calls.add(new Object[] {"decodeTwo", 0, roles[0], roles[1]});
    calls.add(new Object[] {"register", 1, 2});
    cursor = many;
  }

  private void count(String name, String answer) {
    if (!answer.startsWith("throws.")) {
      answers.merge(name, 1, Integer::sum);
      answers.merge(name + "=" + answer, 1, Integer::sum);
    }
  }

  private static String answerOf(Method call, Object object, Object[] args) {
    try {
      return String.valueOf(call.invoke(object, args));
    } catch (InvocationTargetException e) {
      return "throws." + e.getCause().getClass().getName();
    } catch (IllegalAccessException e) {
      return "no access";
    }
  }

  private void shuffleRoles() {
    int first = random.nextInt(4);
    for (int i = 0; i < roles.length; i++) {
      roles[i] = (first + i) % 4;
    }
  }

  private boolean isSeldom(int percent) {
    return random.nextInt(100) < percent;
  }

  private Object argument(String kind) {
    switch (kind) {
      case "flag":
        return isSeldom(60);
      case "mostly":
        return !isSeldom(20);
      case "parity":
        return isSeldom(edges) ? 'x' : "neo".charAt(random.nextInt(3));
      case "kind":
        return isSeldom(edges) ? 'x' : "rfhlpt".charAt(random.nextInt(6));
      default:
        return number(kind);
    }
  }

  private int number(String kind) {
    int[] range = RANGES.get(kind);
    if (isSeldom(edges)) {
      int[] odd = {range[0] - 1, range[1] + 1, range[0], range[1], Integer.MIN_VALUE,
          Integer.MAX_VALUE};
      return odd[random.nextInt(odd.length)];
    }
    int role = List.of("clock", "data", "select").indexOf(kind);
    if (role >= 0 && !isSeldom(4)) {
      return roles[role];
    }
    if (isTidy && !isSeldom(4)) {
      switch (kind) {
        case "tick":
          cursor += random.nextInt(30);
          return Math.min(9999, cursor);
        case "near":
          return Math.min(9999, Math.max(0, cursor - 40 + random.nextInt(150)));
        case "from":
          return Math.min(9999, Math.max(0, cursor - random.nextInt(400)));
        default:
          break;
      }
    }
    int[] mostly = isSeldom(4) ? range : MOSTLY.getOrDefault(kind, range);
    return mostly[0] + random.nextInt(mostly[1] - mostly[0] + 1);
  }
}
