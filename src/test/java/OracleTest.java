import java.lang.reflect.Method;
import java.util.ArrayList;
import java.util.Arrays;
import java.util.List;
import java.util.Random;

/** Promises 1 to 37: runs of calls drawn by chance (always the same), answered by SneezeLights and by Oracle. */
public final class OracleTest {
  private static final int RUNS = 400;
  private static final int CALLS = 512;
  private static final Check check = new Check();
  private static final String[] NAMES = {
    "house", "houseOf", "dry", "now", "sneezer", "of", "set", "turn", "as", "minutes", "on", "then", "lit", "goes", "well",
    "feather", "seat", "kind", "driest", "needs", "dear", "open", "feed", "wipe", "winter", "sheet", "write", "copy",
    "lays", "book", "read", "image", "undo", "tear", "count", "status",
  };
  private static final String[] WORDS = {
    "sneezer", "baron", "child", "doctor", "bishop", "babe", "south", "cold", "tickle", "open", "shut", "dry", "lamp",
    ";", " ", "north", "7", "11", "99", "100", "Q",
  };
  private static final String[] KINDS = {"sneezer", "baron", "child", "doctor", "bishop", "babe"};

  private final Random chance;
  private final SneezeLights lights = new SneezeLights();
  private final Oracle oracle = new Oracle();
  private final List<String> said = new ArrayList<>();
  private final int run;
  /** How rarely an argument is drawn from anywhere: some runs are mostly right, some mostly wrong. */
  private final int rarely;
  /** How rarely a sneezer comes: some runs have one or two of them for long. */
  private final int lonely;

  private OracleTest(int run) {
    this.run = run;
    chance = new Random(1000 + run);
    rarely = new int[] {6, 30, 200, 2000}[run % 4];
    lonely = chance.nextInt(40);
  }

  public static void main(String[] args) throws ReflectiveOperationException {
    int runs = args.length > 0 ? Integer.parseInt(args[0]) : RUNS;
    for (int run = 0; run < runs && !check.isWrong(); run++) {
      new OracleTest(run).go();
    }
    check.end();
  }

  private void go() throws ReflectiveOperationException {
    while (said.size() < CALLS && !check.isWrong()) {
      int turn = chance.nextInt(12);
      if (turn == 0) {
        tellWinter();
      } else if (turn == 1) {
        bookAndRead();
      } else {
        String name = NAMES[chance.nextInt(NAMES.length)];
        if (!name.equals("sneezer") || chance.nextInt(40) >= lonely) {
          call(name, argumentsOf(name));
        }
      }
    }
    if (check.isWrong()) {
      System.out.println("run " + run + " was: " + String.join("; ", said));
    }
  }

  private void call(String name, long... a) throws ReflectiveOperationException {
    if (said.size() >= CALLS) {
      return;
    }
    said.add(name + Arrays.toString(a));
    Method method = Arrays.stream(SneezeLights.class.getDeclaredMethods()).filter(m -> m.getName().equals(name)).findFirst().orElseThrow();
    Object[] given = new Object[a.length];
    for (int i = 0; i < a.length; i++) {
      if (method.getParameterTypes()[i] == long.class) {
        given[i] = a[i];
      } else {
        given[i] = (int) a[i];
      }
    }
    long got = ((Number) method.invoke(lights, given)).longValue();
    check.due("run " + run + " call " + said.size() + " " + name + Arrays.toString(a), got, oracle.answer(name, a));
  }

  private void bookAndRead() throws ReflectiveOperationException {
    long s = chance.nextInt(4);
    long i = from(0, 7);
    call("sheet", s, 8, chance.nextInt(8));
    call("book", s, i);
    if (chance.nextBoolean()) {
      call("set", i, 3, chance.nextInt(100));
    }
    call("read", s, i);
  }

  private void tellWinter() throws ReflectiveOperationException {
    String text = chance.nextInt(6) == 0 ? words() : winter();
    if (chance.nextInt(3) == 0 && !text.isEmpty()) {
      text = spoilt(text);
    }
    call("wipe");
    for (int i = 0; i < text.length(); ) {
      int n = Math.min(text.length() - i, 1 + chance.nextInt(4));
      int bytes = chance.nextInt();
      for (int k = 0; k < n; k++) {
        bytes = bytes << 8 | text.charAt(i + k);
      }
      call("feed", bytes, n);
      i += n;
    }
    call("winter");
  }

  private String words() {
    StringBuilder text = new StringBuilder();
    for (int i = chance.nextInt(8); i > 0; i--) {
      text.append(WORDS[chance.nextInt(WORDS.length)]).append(chance.nextBoolean() ? " " : "");
    }
    return text.toString();
  }

  private String spoilt(String text) {
    int place = chance.nextInt(text.length());
    String put = new String[] {"", " ", ";", "9", "a", "\u00ff", "\t", "cold"}[chance.nextInt(8)];
    return text.substring(0, place) + put + text.substring(place + chance.nextInt(2));
  }

  private String winter() {
    StringBuilder text = new StringBuilder(item());
    for (int i = chance.nextInt(4); i > 0; i--) {
      text.append(chance.nextBoolean() ? ";" : " ; ").append(item());
    }
    return text.toString();
  }

  private String item() {
    switch (chance.nextInt(6)) {
      case 0: return "open " + from(0, 11);
      case 1: return "shut " + from(0, 11);
      case 2: return "dry " + from(0, 9);
      case 3: return "lamp " + from(0, 11) + " " + from(0, 99);
      default: return KINDS[chance.nextInt(6)] + " " + from(0, 11) + (chance.nextBoolean() ? " south" : "")
          + (chance.nextBoolean() ? " cold " + from(0, 99) : "") + (chance.nextBoolean() ? " tickle " + from(0, 99) : "");
    }
  }

  /** Mostly a number that may be, sometimes one just beside, rarely one from anywhere. */
  private long from(int least, int most) {
    if (chance.nextInt(rarely) == 0) {
      return chance.nextBoolean() ? least - 1 - chance.nextInt(2) : most + 1 + chance.nextInt(2);
    }
    if (chance.nextInt(rarely) == 0) {
      return new int[] {Integer.MIN_VALUE, Integer.MAX_VALUE, chance.nextInt(), -1}[chance.nextInt(4)];
    }
    int edge = chance.nextInt(12);
    return edge == 0 ? least : edge == 1 ? most : least + chance.nextInt(most - least + 1);
  }

  private long oneThere() {
    return from(0, 7) % Math.max(1, oracle.answer("count", 0));
  }

  private long someLong() {
    long[] few = {0, 99, 100, -1, 127, 128, 255, 256, 32768, 65535, 1L << 32, Long.MIN_VALUE, Long.MAX_VALUE, -1000000001L};
    return chance.nextBoolean() ? few[chance.nextInt(few.length)] : chance.nextInt(100);
  }

  private long width() {
    return chance.nextInt(rarely) == 0 ? from(-1, 65) : new int[] {0, 8, 8, 16, 64, 64}[chance.nextInt(6)];
  }

  private long[] argumentsOf(String name) {
    switch (name) {
      case "house": return ofHouse();
      case "houseOf": return new long[] {from(0, 11), from(0, 3)};
      case "dry": return new long[] {from(0, 9)};
      case "now": return new long[] {from(0, 6)};
      case "sneezer": return new long[] {from(0, 5), from(0, 11)};
      case "of": return new long[] {oneThere(), from(0, 9)};
      case "set": return ofSneezer();
      case "turn": case "as": return new long[] {oneThere(), from(0, 5)};
      case "minutes": return new long[] {chance.nextBoolean() ? from(1, 100) : from(1, 5)};
      case "on": return new long[] {oneThere(), from(0, 200), from(0, 2)};
      case "then": return new long[] {from(0, 11), from(0, 200), from(0, 1)};
      case "lit": return new long[] {from(0, 11), from(0, 1)};
      case "goes": return new long[] {oneThere()};
      case "feather": case "dear": case "open": return new long[] {from(1, 60)};
      case "seat": case "kind": return new long[] {oneThere(), from(1, 60)};
      case "driest": return new long[] {from(1, 60), chance.nextInt(9) == 0 ? from(0, 99999) : oracle.answer("now", 6) + from(0, 60)};
      case "needs": return new long[] {oneThere(), from(0, 11), from(0, 60)};
      case "feed": return new long[] {chance.nextInt(), from(1, 4)};
      case "sheet": return new long[] {from(0, 3), width(), from(0, 40)};
      case "write": return new long[] {from(0, 3), from(0, 39), someLong()};
      case "copy": return new long[] {from(0, 3), from(0, 20), from(0, 3), from(0, 20), from(0, 10)};
      case "lays": return new long[] {from(0, 3)};
      case "book": case "read": return new long[] {from(0, 3), oneThere()};
      case "count": return new long[] {from(0, 3)};
      case "status": return new long[] {from(-1, 6)};
      default: return new long[0];
    }
  }

  private long[] ofHouse() {
    int what = (int) from(0, 2);
    int[] most = {99, 1, 9999};
    return new long[] {from(0, 11), what, from(0, what >= 0 && what < 3 ? most[what] : 5)};
  }

  private long[] ofSneezer() {
    int what = (int) from(1, 5);
    int[] most = {0, 11, 1, 99, 99, 9999};
    return new long[] {oneThere(), what, from(0, what >= 1 && what < 6 ? most[what] : 5)};
  }
}
