import java.util.ArrayList;
import java.util.Arrays;
import java.util.List;
import java.util.regex.Matcher;
import java.util.regex.Pattern;

/**
 * The document once more, written another way: a class for each KIND, an object for each HOUSE and SNEEZER, a new copy
 * for each AHEAD, rows of Java's own numbers for the SHEETS. OracleTest compares SneezeLights with it.
 */
final class Oracle {
  static final class Finding extends RuntimeException {
    private static final long serialVersionUID = 1;
    final int value;

    Finding(int value) {
      this.value = value;
    }
  }

  static class House {
    int lamp;
    int book = 1;
    int read;

    House twin() {
      House t = new House();
      t.lamp = lamp;
      t.book = book;
      t.read = read;
      return t;
    }
  }

  static class One {
    int kind;
    int house;
    int faces = 1;
    int cold = 20;
    int tickle;
    int gone;
    boolean justWent;

    One twin() {
      One t = new One();
      t.kind = kind;
      t.house = house;
      t.faces = faces;
      t.cold = cold;
      t.tickle = tickle;
      t.gone = gone;
      return t;
    }
  }

  static class AsSneezer {
    int tickles(World w, One o) {
      return Math.max(o.cold / 4 - w.dry, 0);
    }

    int holds(World w, One o) {
      return 30;
    }

    int blows(World w, One o) {
      return 1 + o.cold / 25;
    }

    int heals(World w, One o) {
      return 1;
    }
  }

  static class AsBaron extends AsSneezer {
    @Override
    int tickles(World w, One o) {
      return super.tickles(w, o) / 2;
    }

    @Override
    int holds(World w, One o) {
      return super.holds(w, o) + 60;
    }

    @Override
    int blows(World w, One o) {
      return super.blows(w, o) * 2;
    }

    @Override
    int heals(World w, One o) {
      return 0;
    }
  }

  static class AsChild extends AsSneezer {
    @Override
    int tickles(World w, One o) {
      return super.tickles(w, o) + 3;
    }

    @Override
    int holds(World w, One o) {
      return super.holds(w, o) - 10;
    }

    @Override
    int blows(World w, One o) {
      return 1;
    }

    @Override
    int heals(World w, One o) {
      return super.heals(w, o) + 1;
    }
  }

  static class AsDoctor extends AsSneezer {
    @Override
    int tickles(World w, One o) {
      return 0;
    }

    @Override
    int holds(World w, One o) {
      return 99;
    }

    @Override
    int blows(World w, One o) {
      return 0;
    }

    @Override
    int heals(World w, One o) {
      return 9;
    }
  }

  static class AsBishop extends AsBaron {
    @Override
    int tickles(World w, One o) {
      return super.tickles(w, o) + 1;
    }

    @Override
    int holds(World w, One o) {
      return Math.max(30, super.holds(w, o) - 5 * w.lights());
    }

    @Override
    int blows(World w, One o) {
      return super.blows(w, o) + 1;
    }

    @Override
    int heals(World w, One o) {
      return super.heals(w, o) + w.dry / 3;
    }
  }

  static class AsBabe extends AsChild {
    @Override
    int tickles(World w, One o) {
      return super.tickles(w, o) * (w.houses.get(o.house).lamp > 0 ? 2 : 1);
    }

    @Override
    int blows(World w, One o) {
      return super.blows(w, o) + o.cold / 50;
    }

    @Override
    int heals(World w, One o) {
      return super.heals(w, o) - 1;
    }
  }

  private static final AsSneezer[] KINDS = {
    new AsSneezer(), new AsBaron(), new AsChild(), new AsDoctor(), new AsBishop(), new AsBabe()
  };
  private static final List<String> NAMES = List.of("sneezer", "baron", "child", "doctor", "bishop", "babe");

  static class World {
    int minute;
    int dry = 2;
    List<House> houses = new ArrayList<>();
    List<One> ones = new ArrayList<>();

    World twin() {
      World t = new World();
      t.minute = minute;
      t.dry = dry;
      houses.forEach(h -> t.houses.add(h.twin()));
      ones.forEach(o -> t.ones.add(o.twin()));
      return t;
    }

    int lights() {
      return (int) houses.stream().filter(h -> h.lamp > 0).count();
    }

    int readAll() {
      return houses.stream().mapToInt(h -> h.read).sum();
    }

    World ahead(int n) {
      World t = twin();
      for (int i = 0; i < n; i++) {
        t.minuteGoes();
      }
      return t;
    }

    void minuteGoes() {
      for (House h : houses) {
        if (h.lamp > 0) {
          h.lamp -= 1;
          h.read = h.read == 9999 ? 9999 : h.read + 1;
        }
      }
      for (One o : ones) {
        o.tickle += KINDS[o.kind].tickles(this, o);
        o.tickle = o.tickle > 99 ? 99 : o.tickle;
        o.justWent = false;
      }
      List<One> off = new ArrayList<>();
      for (One o : ones) {
        if (o.tickle >= KINDS[o.kind].holds(this, o)) {
          off.add(o);
        }
      }
      off.forEach(this::goesOff);
      for (One o : ones) {
        o.cold -= KINDS[o.kind].heals(this, o);
        o.cold = o.cold < 0 ? 0 : o.cold;
      }
      minute++;
    }

    private void goesOff(One o) {
      o.justWent = true;
      o.tickle = 0;
      o.gone = o.gone == 9999 ? 9999 : o.gone + 1;
      int far = KINDS[o.kind].blows(this, o);
      for (int h = 0; h < 12; h++) {
        int before = o.faces == 1 ? h - o.house : o.house - h;
        House there = houses.get(h);
        if (before >= 1 && before <= far && there.book == 1 && there.lamp < 5 + o.cold / 10) {
          there.lamp = 5 + o.cold / 10;
        }
      }
      for (One p : ones) {
        boolean beside = p.house == o.house || p.house == o.house - 1 || p.house == o.house + 1;
        if (p != o && p.kind != 3 && beside) {
          p.cold = p.cold + 6 > 99 ? 99 : p.cold + 6;
        }
      }
    }
  }

  private World world = new World();
  private World image;
  private final StringBuilder tape = new StringBuilder();
  private final Object[] sheets = new Object[4];
  private final int[] told = new int[7];

  Oracle() {
    for (int h = 0; h < 12; h++) {
      world.houses.add(new House());
    }
  }

  long answer(String name, long... a) {
    try {
      return act(name, a);
    } catch (Finding f) {
      told[-1000000001 - f.value]++;
      return f.value;
    }
  }

  private static void beyondUnless(boolean fact) {
    unless(fact, Check.BEYOND);
  }

  private static void unless(boolean fact, int finding) {
    if (!fact) {
      throw new Finding(finding);
    }
  }

  private One one(long i) {
    beyondUnless(i >= 0 && i < world.ones.size());
    return world.ones.get((int) i);
  }

  private House houseAt(long h) {
    beyondUnless(h >= 0 && h <= 11);
    return world.houses.get((int) h);
  }

  private static void range(long v, long least, long most) {
    beyondUnless(least <= v && v <= most);
  }

  private long act(String name, long[] a) {
    switch (name) {
      case "house": return house(a[0], (int) a[1], (int) a[2]);
      case "houseOf": return houseOf(a[0], (int) a[1]);
      case "dry": return dry((int) a[0]);
      case "now": return now((int) a[0]);
      case "sneezer": return sneezer((int) a[0], (int) a[1]);
      case "of": return of(one(a[0]), (int) a[1]);
      case "set": return set(one(a[0]), (int) a[1], (int) a[2]);
      case "turn": return turn(one(a[0]), (int) a[1]);
      case "as": return as(one(a[0]), (int) a[1]);
      case "minutes": return minutes((int) a[0]);
      case "on": return on((int) a[0], (int) a[1], (int) a[2]);
      case "then": return then((int) a[0], (int) a[1], (int) a[2]);
      case "lit": return lit((int) a[0], (int) a[1]);
      case "goes": return goes((int) a[0]);
      case "well": return well();
      case "feather": return feather((int) a[0]);
      case "seat": return seat((int) a[0], (int) a[1]);
      case "kind": return kind((int) a[0], (int) a[1]);
      case "driest": return driest((int) a[0], (int) a[1]);
      case "needs": return needs((int) a[0], (int) a[1], (int) a[2]);
      case "dear": return dear((int) a[0]);
      case "open": return open((int) a[0]);
      default: return actOnRest(name, a);
    }
  }

  private long actOnRest(String name, long[] a) {
    switch (name) {
      case "feed": return feed((int) a[0], (int) a[1]);
      case "wipe": return wipe();
      case "winter": return winter();
      case "sheet": return sheet((int) a[0], (int) a[1], (int) a[2]);
      case "write": return write((int) a[0], (int) a[1], a[2]);
      case "copy": return copy(a);
      case "lays": return lays((int) a[0]);
      case "book": return book((int) a[0], (int) a[1]);
      case "read": return read((int) a[0], (int) a[1]);
      case "image": image = world.twin(); return 1;
      case "undo": unless(image != null, Check.NONE); world = image.twin(); return world.ones.size();
      case "tear": int had = image == null ? 0 : 1; image = null; return had;
      case "count": return count((int) a[0]);
      case "status": range(a[0], -1, 6); return a[0] < 0 ? Arrays.stream(told).sum() : told[(int) a[0]];
      default: throw new IllegalArgumentException(name);
    }
  }

  private long house(long house, int what, int v) {
    House h = houseAt(house);
    range(what, 0, 2);
    range(v, 0, new int[] {99, 1, 9999}[what]);
    int was = new int[] {h.lamp, h.book, h.read}[what];
    if (what == 0) {
      h.lamp = v;
    } else if (what == 1) {
      h.book = v;
    } else {
      h.read = v;
    }
    return was;
  }

  private long houseOf(long house, int what) {
    House h = houseAt(house);
    range(what, 0, 3);
    int at = 0;
    for (int i = 0; i < world.ones.size(); i++) {
      at += world.ones.get(i).house == house ? Math.pow(2, i) : 0;
    }
    return new int[] {h.lamp, h.book, h.read, at}[what];
  }

  private long dry(int v) {
    range(v, 0, 9);
    int was = world.dry;
    world.dry = v;
    return was;
  }

  private long now(int what) {
    range(what, 0, 6);
    int burning = 0;
    int open = 0;
    int ready = 0;
    int cold = 0;
    for (int h = 11; h >= 0; h--) {
      burning = 2 * burning + (world.houses.get(h).lamp > 0 ? 1 : 0);
      open = 2 * open + world.houses.get(h).book;
    }
    for (int i = world.ones.size() - 1; i >= 0; i--) {
      One o = world.ones.get(i);
      ready = 2 * ready + (o.tickle >= KINDS[o.kind].holds(world, o) ? 1 : 0);
      cold += o.cold;
    }
    return new int[] {world.minute, world.dry, burning, open, ready, cold, world.readAll()}[what];
  }

  private long sneezer(int kind, int house) {
    range(kind, 0, 5);
    range(house, 0, 11);
    unless(world.ones.size() < 8, Check.FULL);
    One o = new One();
    o.kind = kind;
    o.house = house;
    world.ones.add(o);
    return world.ones.size() - 1;
  }

  private long of(One o, int what) {
    range(what, 0, 9);
    AsSneezer k = KINDS[o.kind];
    return new int[] {o.kind, o.house, o.faces, o.cold, o.tickle, o.gone,
      k.tickles(world, o), k.holds(world, o), k.blows(world, o), k.heals(world, o)}[what];
  }

  private long set(One o, int what, int v) {
    range(what, 1, 5);
    range(v, 0, new int[] {0, 11, 1, 99, 99, 9999}[what]);
    long was = of(o, what);
    o.house = what == 1 ? v : o.house;
    o.faces = what == 2 ? v : o.faces;
    o.cold = what == 3 ? v : o.cold;
    o.tickle = what == 4 ? v : o.tickle;
    o.gone = what == 5 ? v : o.gone;
    return was;
  }

  private long turn(One o, int kind) {
    range(kind, 0, 5);
    int was = o.kind;
    o.kind = kind;
    return was;
  }

  private long as(One o, int kind) {
    range(kind, 0, 5);
    unless(KINDS[kind].getClass().isInstance(KINDS[o.kind]), Check.KIND);
    return o.cold;
  }

  private long minutes(int n) {
    range(n, 1, 100);
    unless(world.minute + n <= 99999, Check.STATE);
    world = world.ahead(n);
    return now(2);
  }

  private long on(int i, int n, int what) {
    one(i);
    range(n, 0, 200);
    range(what, 0, 2);
    One o = world.ahead(n).ones.get(i);
    return new int[] {o.cold, o.tickle, o.gone}[what];
  }

  private long then(int house, int n, int what) {
    houseAt(house);
    range(n, 0, 200);
    range(what, 0, 1);
    House h = world.ahead(n).houses.get(house);
    return what == 0 ? h.lamp : h.read;
  }

  private long lit(int house, int v) {
    houseAt(house);
    range(v, 0, 1);
    World w = world.twin();
    for (int n = 0; n <= 200; n++, w.minuteGoes()) {
      if ((w.houses.get(house).lamp > 0 ? 1 : 0) == v) {
        return n;
      }
    }
    throw new Finding(Check.NONE);
  }

  private long goes(int i) {
    one(i);
    World w = world.twin();
    for (int n = 1; n <= 200; n++) {
      w.minuteGoes();
      if (w.ones.get(i).justWent) {
        return n;
      }
    }
    throw new Finding(Check.NONE);
  }

  private long well() {
    World w = world.twin();
    for (int n = 0; n <= 200; n++, w.minuteGoes()) {
      if (w.ones.stream().allMatch(o -> o.cold == 0)) {
        return n;
      }
    }
    throw new Finding(Check.NONE);
  }

  /** The place of the greatest, the least place of several. */
  private static int firstMost(List<Integer> reads) {
    int most = reads.stream().mapToInt(Integer::intValue).max().orElseThrow();
    return reads.indexOf(most);
  }

  private long feather(int n) {
    range(n, 1, 60);
    unless(!world.ones.isEmpty(), Check.NONE);
    List<Integer> reads = new ArrayList<>();
    for (int i = 0; i < world.ones.size(); i++) {
      World w = world.twin();
      w.ones.get(i).tickle = 99;
      reads.add(w.ahead(n).readAll());
    }
    return firstMost(reads);
  }

  private long seat(int i, int n) {
    one(i);
    range(n, 1, 60);
    List<Integer> reads = new ArrayList<>();
    for (int h = 0; h < 12; h++) {
      for (int f = 0; f <= 1; f++) {
        World w = world.twin();
        w.ones.get(i).house = h;
        w.ones.get(i).faces = f;
        reads.add(w.ahead(n).readAll());
      }
    }
    return firstMost(reads);
  }

  private long kind(int i, int n) {
    one(i);
    range(n, 1, 60);
    List<Integer> reads = new ArrayList<>();
    for (int k = 0; k < 6; k++) {
      World w = world.twin();
      w.ones.get(i).kind = k;
      reads.add(w.ahead(n).readAll());
    }
    return firstMost(reads);
  }

  private long driest(int n, int v) {
    range(n, 1, 60);
    range(v, 0, 99999);
    int best = Check.NONE;
    for (int d = 0; d <= 9; d++) {
      World w = world.twin();
      w.dry = d;
      best = w.ahead(n).readAll() >= v ? d : best;
    }
    unless(best >= 0, Check.NONE);
    return best;
  }

  private long needs(int i, int house, int n) {
    one(i);
    houseAt(house);
    range(n, 0, 60);
    int least = -1;
    for (int c = 99; c >= 0; c--) {
      World w = world.twin();
      w.ones.get(i).cold = c;
      least = w.ahead(n).houses.get(house).lamp > 0 ? c : least;
    }
    unless(least >= 0, Check.NONE);
    return least;
  }

  private long dear(int n) {
    range(n, 1, 60);
    unless(!world.ones.isEmpty(), Check.NONE);
    List<Integer> reads = new ArrayList<>();
    for (int i = 0; i < world.ones.size(); i++) {
      World w = world.twin();
      w.ones.get(i).cold = 0;
      reads.add(-w.ahead(n).readAll());
    }
    return firstMost(reads);
  }

  private long open(int n) {
    range(n, 1, 60);
    List<Integer> reads = new ArrayList<>();
    for (int h = 0; h < 12; h++) {
      World w = world.twin();
      w.houses.get(h).book ^= 1;
      reads.add(w.ahead(n).readAll());
    }
    return firstMost(reads);
  }

  private long feed(int bytes, int n) {
    range(n, 1, 4);
    unless(tape.length() + n <= 120, Check.FULL);
    String four = "" + (char) (bytes >>> 24) + (char) (bytes >>> 16 & 255) + (char) (bytes >>> 8 & 255) + (char) (bytes & 255);
    tape.append(four.substring(4 - n));
    return tape.length();
  }

  private long wipe() {
    int had = tape.length();
    tape.setLength(0);
    return had;
  }

  private static final class Fault extends RuntimeException {
    private static final long serialVersionUID = 1;
    final int place;

    Fault(int place) {
      this.place = place;
    }
  }

  private record Token(String text, int place) {
  }

  private long winter() {
    String text = tape.toString();
    wipe();
    World before = world.twin();
    try {
      return items(tokens(text));
    } catch (Fault f) {
      world = before;
      return -1 - f.place;
    }
  }

  /** A byte that begins no TOKEN is one of its own that no rule takes; an empty one ends the list. */
  private static List<Token> tokens(String text) {
    List<Token> all = new ArrayList<>();
    Matcher m = Pattern.compile("[a-z]+|[0-9]+|[^ ]", Pattern.DOTALL).matcher(text);
    while (m.find()) {
      all.add(new Token(m.group(), m.start()));
    }
    all.add(new Token("", text.length()));
    return all;
  }

  private int at;
  private List<Token> list;

  private int items(List<Token> tokens) {
    list = tokens;
    at = 0;
    int items = 0;
    do {
      item(list.get(at++));
      items++;
    } while (accept(";"));
    if (!list.get(at).text().isEmpty()) {
      throw new Fault(list.get(at).place());
    }
    return items;
  }

  private boolean accept(String text) {
    boolean is = list.get(at).text().equals(text);
    at += is ? 1 : 0;
    return is;
  }

  private int number(int most) {
    Token t = list.get(at);
    String digits = t.text().replaceFirst("^0+(?=[0-9])", "");
    if (!digits.matches("[0-9]{1,3}") || Integer.parseInt(digits) > most) {
      throw new Fault(t.place());
    }
    at++;
    return Integer.parseInt(digits);
  }

  private void item(Token word) {
    int kind = NAMES.indexOf(word.text());
    if (kind >= 0 && world.ones.size() < 8) {
      One o = new One();
      o.kind = kind;
      o.house = number(11);
      o.faces = accept("south") ? 0 : 1;
      o.cold = accept("cold") ? number(99) : 20;
      o.tickle = accept("tickle") ? number(99) : 0;
      world.ones.add(o);
    } else if (word.text().equals("open") || word.text().equals("shut")) {
      world.houses.get(number(11)).book = word.text().equals("open") ? 1 : 0;
    } else if (word.text().equals("dry")) {
      world.dry = number(9);
    } else if (word.text().equals("lamp")) {
      House h = world.houses.get(number(11));
      h.lamp = number(99);
    } else {
      throw new Fault(word.place());
    }
  }

  private long sheet(int s, int bits, int n) {
    range(s, 0, 3);
    beyondUnless(List.of(0, 8, 16, 64).contains(bits));
    unless(n >= 0, Check.SIZE);
    beyondUnless(n <= 40);
    sheets[s] = bits == 0 ? null : bits == 8 ? new byte[n] : bits == 16 ? new short[n] : new long[n];
    return bits == 0 ? 0 : n;
  }

  private Object sheetAt(int s) {
    range(s, 0, 3);
    unless(sheets[s] != null, Check.MISSING);
    return sheets[s];
  }

  private static int lengthOf(Object sheet) {
    return java.lang.reflect.Array.getLength(sheet);
  }

  private static long numberOf(Object sheet, int i) {
    return java.lang.reflect.Array.getLong(sheet, i);
  }

  private static void put(Object sheet, int i, long v) {
    if (sheet instanceof byte[] b) {
      b[i] = (byte) v;
    } else if (sheet instanceof short[] t) {
      t[i] = (short) v;
    } else {
      ((long[]) sheet)[i] = v;
    }
  }

  private long write(int s, int i, long v) {
    Object sheet = sheetAt(s);
    range(i, 0, lengthOf(sheet) - 1);
    long was = numberOf(sheet, i);
    put(sheet, i, v);
    return was;
  }

  private long copy(long[] a) {
    range(a[0], 0, 3);
    range(a[2], 0, 3);
    Object from = sheetAt((int) a[0]);
    Object to = sheetAt((int) a[2]);
    try {
      if (from.getClass() != to.getClass()) {
        throw new Finding(Check.KIND);
      }
      System.arraycopy(from, (int) a[1], to, (int) a[3], (int) a[4]);
    } catch (IndexOutOfBoundsException e) {
      throw new Finding(Check.BEYOND);
    }
    return a[4];
  }

  private long lays(int s) {
    Object sheet = sheetAt(s);
    int came = 0;
    for (int i = 0; i < lengthOf(sheet); i++) {
      long c = numberOf(sheet, i);
      if (i < world.ones.size() && 0 <= c && c < 100) {
        world.ones.get(i).cold = (int) c;
        came++;
      }
    }
    return came;
  }

  private long book(int s, int i) {
    Object sheet = sheetAt(s);
    one(i);
    for (int n = 0; n < lengthOf(sheet); n++) {
      put(sheet, n, world.ahead(n).ones.get(i).tickle);
    }
    return lengthOf(sheet);
  }

  private long read(int s, int i) {
    Object sheet = sheetAt(s);
    one(i);
    int pairs = 0;
    for (int pair = 0; pair < 600; pair++) {
      World w = world.twin();
      w.ones.get(i).kind = pair % 6;
      w.ones.get(i).cold = pair / 6;
      int n = 0;
      while (n < lengthOf(sheet) && numberOf(sheet, n) == w.ones.get(i).tickle) {
        w.minuteGoes();
        n++;
      }
      pairs += n == lengthOf(sheet) ? 1 : 0;
    }
    return pairs;
  }

  private long count(int what) {
    range(what, 0, 3);
    return new int[] {world.ones.size(), tape.length(), world.lights(),
      world.ones.stream().mapToInt(o -> o.gone).sum()}[what];
  }
}
