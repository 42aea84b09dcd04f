/** Promises 6 to 10: sneezer, of, set, turn, as. */
public final class SneezersTest {
  private static final Check check = new Check();

  public static void main(String[] args) {
    sneezer();
    of();
    tickles();
    holds();
    blows();
    heals();
    set();
    turn();
    as();
    check.end();
  }

  private static void sneezer() {
    SneezeLights x = new SneezeLights();
    check.due("6 kind -1", x.sneezer(-1, 0), Check.BEYOND);
    check.due("6 kind 6", x.sneezer(6, 0), Check.BEYOND);
    check.due("6 house -1", x.sneezer(0, -1), Check.BEYOND);
    check.due("6 house 12", x.sneezer(0, 12), Check.BEYOND);
    check.due("6 nobody came", x.count(0), 0);
    for (int i = 0; i < 8; i++) {
      check.due("6 number " + i, x.sneezer(i % 6, 11 - i), i);
    }
    check.due("6 a 9th", x.sneezer(0, 0), Check.FULL);
    check.due("6 a 9th of no kind", x.sneezer(6, 0), Check.BEYOND);
    check.due("6 a 9th nowhere", x.sneezer(0, 12), Check.BEYOND);
    check.due("6 eight", x.count(0), 8);
    check.due("6 FULL counted", x.status(1), 1);
  }

  private static void of() {
    SneezeLights x = new SneezeLights();
    x.sneezer(0, 3);
    x.sneezer(5, 11);
    int[] first = {5, 11, 1, 20, 0, 0, 6, 20, 1, 1};
    for (int what = 0; what < 10; what++) {
      check.due("7 what " + what, x.of(1, what), first[what]);
    }
    check.due("7 no such one", x.of(2, 0), Check.BEYOND);
    check.due("7 -1", x.of(-1, 0), Check.BEYOND);
    check.due("7 what -1", x.of(0, -1), Check.BEYOND);
    check.due("7 what 10", x.of(0, 10), Check.BEYOND);
    check.due("7 far", x.of(Integer.MAX_VALUE, 0), Check.BEYOND);
    check.due("7 findings counted", x.status(0), 5);
  }

  /** One of each kind at house 5 with a cold, in a dryness. */
  private static SneezeLights oneOfEach(int cold, int dry) {
    SneezeLights x = new SneezeLights();
    for (int kind = 0; kind < 6; kind++) {
      x.sneezer(kind, 5);
      x.set(kind, 3, cold);
    }
    x.dry(dry);
    return x;
  }

  private static void dueOfEach(SneezeLights x, int what, int... want) {
    for (int kind = 0; kind < 6; kind++) {
      check.due("7 what " + what + " of kind " + kind, x.of(kind, what), want[kind]);
    }
  }

  private static void tickles() {
    dueOfEach(oneOfEach(99, 0), 6, 24, 12, 27, 0, 13, 27);
    dueOfEach(oneOfEach(47, 2), 6, 9, 4, 12, 0, 5, 12);
    dueOfEach(oneOfEach(3, 0), 6, 0, 0, 3, 0, 1, 3);
    dueOfEach(oneOfEach(20, 9), 6, 0, 0, 3, 0, 1, 3);
    SneezeLights x = oneOfEach(47, 2);
    x.house(4, 0, 9);
    x.house(6, 0, 9);
    dueOfEach(x, 6, 9, 4, 12, 0, 5, 12);
    x.house(5, 0, 1);
    dueOfEach(x, 6, 9, 4, 12, 0, 5, 24);
    // A LAMP burns whether the BOOK is open or shut.
    x.house(5, 1, 0);
    dueOfEach(x, 6, 9, 4, 12, 0, 5, 24);
  }

  private static void holds() {
    SneezeLights x = oneOfEach(99, 0);
    dueOfEach(x, 7, 30, 90, 20, 99, 90, 20);
    for (int h = 0; h < 12; h++) {
      x.house(h, 0, 1 + 8 * h);
      dueOfEach(x, 7, 30, 90, 20, 99, 90 - 5 * (h + 1), 20);
    }
    // A LAMP burns whether the BOOK is open or shut.
    for (int h = 0; h < 12; h++) {
      x.house(h, 1, 0);
    }
    dueOfEach(x, 7, 30, 90, 20, 99, 30, 20);
  }

  private static void blows() {
    dueOfEach(oneOfEach(0, 0), 8, 1, 2, 1, 0, 3, 1);
    dueOfEach(oneOfEach(24, 0), 8, 1, 2, 1, 0, 3, 1);
    dueOfEach(oneOfEach(25, 0), 8, 2, 4, 1, 0, 5, 1);
    dueOfEach(oneOfEach(49, 9), 8, 2, 4, 1, 0, 5, 1);
    dueOfEach(oneOfEach(50, 9), 8, 3, 6, 1, 0, 7, 2);
    dueOfEach(oneOfEach(74, 9), 8, 3, 6, 1, 0, 7, 2);
    dueOfEach(oneOfEach(75, 9), 8, 4, 8, 1, 0, 9, 2);
    dueOfEach(oneOfEach(99, 0), 8, 4, 8, 1, 0, 9, 2);
  }

  private static void heals() {
    dueOfEach(oneOfEach(50, 0), 9, 1, 0, 2, 9, 0, 1);
    dueOfEach(oneOfEach(50, 2), 9, 1, 0, 2, 9, 0, 1);
    dueOfEach(oneOfEach(50, 3), 9, 1, 0, 2, 9, 1, 1);
    dueOfEach(oneOfEach(50, 5), 9, 1, 0, 2, 9, 1, 1);
    dueOfEach(oneOfEach(50, 6), 9, 1, 0, 2, 9, 2, 1);
    dueOfEach(oneOfEach(50, 8), 9, 1, 0, 2, 9, 2, 1);
    dueOfEach(oneOfEach(50, 9), 9, 1, 0, 2, 9, 3, 1);
    dueOfEach(oneOfEach(0, 9), 9, 1, 0, 2, 9, 3, 1);
  }

  private static void set() {
    SneezeLights x = new SneezeLights();
    x.sneezer(2, 4);
    int[] first = {-1, 4, 1, 20, 0, 0};
    int[] most = {-1, 11, 1, 99, 99, 9999};
    for (int what = 1; what <= 5; what++) {
      check.due("8 most of " + what, x.set(0, what, most[what]), first[what]);
      check.due("8 stands " + what, x.of(0, what), most[what]);
      check.due("8 above " + what, x.set(0, what, most[what] + 1), Check.BEYOND);
      check.due("8 below " + what, x.set(0, what, -1), Check.BEYOND);
      check.due("8 least of " + what, x.set(0, what, 0), most[what]);
      check.due("8 is least " + what, x.of(0, what), 0);
    }
    check.due("8 what 0", x.set(0, 0, 1), Check.BEYOND);
    check.due("8 what 6", x.set(0, 6, 1), Check.BEYOND);
    check.due("8 no such one", x.set(1, 3, 1), Check.BEYOND);
    check.due("8 -1", x.set(-1, 3, 1), Check.BEYOND);
    check.due("8 the KIND stays", x.of(0, 0), 2);
  }

  private static void turn() {
    SneezeLights x = new SneezeLights();
    x.sneezer(0, 4);
    x.set(0, 2, 0);
    x.set(0, 3, 77);
    x.set(0, 4, 25);
    x.set(0, 5, 6);
    check.due("9 turn(0, 5)", x.turn(0, 5), 0);
    check.due("9 turn(0, 5) again", x.turn(0, 5), 5);
    int[] want = {5, 4, 0, 77, 25, 6};
    for (int what = 0; what < 6; what++) {
      check.due("9 what " + what, x.of(0, what), want[what]);
    }
    check.due("9 kind 6", x.turn(0, 6), Check.BEYOND);
    check.due("9 kind -1", x.turn(0, -1), Check.BEYOND);
    check.due("9 no such one", x.turn(1, 0), Check.BEYOND);
    check.due("9 -1", x.turn(-1, 0), Check.BEYOND);
    check.due("9 it stays", x.of(0, 0), 5);
  }

  private static void as() {
    String[] kindsAbove = {"0", "01", "02", "03", "014", "025"};
    SneezeLights x = new SneezeLights();
    for (int kind = 0; kind < 6; kind++) {
      x.sneezer(kind, 0);
      x.set(kind, 3, 30 + kind);
    }
    int refused = 0;
    for (int kind = 0; kind < 6; kind++) {
      for (int above = 0; above < 6; above++) {
        boolean is = kindsAbove[kind].indexOf('0' + above) >= 0;
        refused += is ? 0 : 1;
        check.due("10 as(" + kind + ", " + above + ")", x.as(kind, above), is ? 30 + kind : Check.KIND);
      }
    }
    check.due("10 KIND counted", x.status(2), refused);
    check.due("10 no such one", x.as(6, 0), Check.BEYOND);
    check.due("10 -1", x.as(-1, 0), Check.BEYOND);
    check.due("10 kind 6", x.as(0, 6), Check.BEYOND);
    check.due("10 kind -1", x.as(1, -1), Check.BEYOND);
  }
}
