/** Promises 1 to 5: a new object, house, houseOf, dry, now. */
public final class StreetTest {
  private static final Check check = new Check();

  public static void main(String[] args) {
    aNewObject();
    house();
    houseBeyond();
    houseOf();
    dry();
    now();
    nowReady();
    check.end();
  }

  private static void aNewObject() {
    SneezeLights x = new SneezeLights();
    check.due("1 SNEEZERS", x.count(0), 0);
    check.due("1 bytes", x.count(1), 0);
    check.due("1 LAMPS", x.count(2), 0);
    check.due("1 GONE OFF", x.count(3), 0);
    for (int h = 0; h < 12; h++) {
      check.due("1 LAMP " + h, x.houseOf(h, 0), 0);
      check.due("1 BOOK " + h, x.houseOf(h, 1), 1);
      check.due("1 READ " + h, x.houseOf(h, 2), 0);
      check.due("1 AT " + h, x.houseOf(h, 3), 0);
    }
    check.due("1 MINUTE", x.now(0), 0);
    check.due("1 DRY", x.now(1), 2);
    check.due("1 status", x.status(-1), 0);
    check.due("1 undo", x.undo(), Check.NONE);
    check.due("1 tear", x.tear(), 0);
    for (int s = 0; s < 4; s++) {
      check.due("1 sheet " + s, x.write(s, 0, 1), Check.MISSING);
    }
    SneezeLights y = new SneezeLights();
    y.house(4, 0, 9);
    check.due("1 objects are apart", x.houseOf(4, 0), 0);
  }

  private static void house() {
    SneezeLights x = new SneezeLights();
    check.due("2 LAMP", x.house(11, 0, 99), 0);
    check.due("2 LAMP again", x.house(11, 0, 3), 99);
    check.due("2 BOOK", x.house(0, 1, 0), 1);
    check.due("2 BOOK again", x.house(0, 1, 1), 0);
    check.due("2 READ", x.house(5, 2, 9999), 0);
    check.due("2 READ again", x.house(5, 2, 0), 9999);
    check.due("2 LAMP stands", x.houseOf(11, 0), 3);
    check.due("2 a shut BOOK's LAMP", x.house(3, 1, 0), 1);
    check.due("2 may burn", x.house(3, 0, 7), 0);
    check.due("2 and does", x.houseOf(3, 0), 7);
  }

  private static void houseBeyond() {
    SneezeLights x = new SneezeLights();
    int[][] wrong = {
      {-1, 0, 0}, {12, 0, 0}, {0, -1, 0}, {0, 3, 0}, {0, 0, -1}, {0, 0, 100}, {0, 1, -1}, {0, 1, 2},
      {0, 2, -1}, {0, 2, 10000}, {Integer.MIN_VALUE, 0, 0}, {Integer.MAX_VALUE, 0, 0},
      {0, Integer.MIN_VALUE, 0}, {0, Integer.MAX_VALUE, 0}, {0, 0, Integer.MIN_VALUE}, {0, 2, Integer.MAX_VALUE},
    };
    String before = Check.stateOf(x);
    for (int[] w : wrong) {
      check.due("2 house(" + w[0] + ", " + w[1] + ", " + w[2] + ")", x.house(w[0], w[1], w[2]), Check.BEYOND);
    }
    check.holds("2 a finding changes nothing", before.equals(Check.stateOf(x)));
    check.due("2 findings counted", x.status(0), wrong.length);
  }

  private static void houseOf() {
    SneezeLights x = new SneezeLights();
    x.house(7, 0, 42);
    x.house(7, 1, 0);
    x.house(7, 2, 17);
    x.sneezer(0, 7);
    x.sneezer(3, 6);
    x.sneezer(5, 7);
    check.due("3 LAMP", x.houseOf(7, 0), 42);
    check.due("3 BOOK", x.houseOf(7, 1), 0);
    check.due("3 READ", x.houseOf(7, 2), 17);
    check.due("3 AT 7", x.houseOf(7, 3), 0b101);
    check.due("3 AT 6", x.houseOf(6, 3), 0b010);
    check.due("3 AT 8", x.houseOf(8, 3), 0);
    x.set(1, 1, 8);
    check.due("3 AT 8 after a move", x.houseOf(8, 3), 0b010);
    check.due("3 house -1", x.houseOf(-1, 0), Check.BEYOND);
    check.due("3 house 12", x.houseOf(12, 3), Check.BEYOND);
    check.due("3 what -1", x.houseOf(0, -1), Check.BEYOND);
    check.due("3 what 4", x.houseOf(0, 4), Check.BEYOND);
    check.due("3 findings counted", x.status(-1), 4);
  }

  private static void dry() {
    SneezeLights x = new SneezeLights();
    check.due("4 dry(9)", x.dry(9), 2);
    check.due("4 dry(0)", x.dry(0), 9);
    check.due("4 dry(10)", x.dry(10), Check.BEYOND);
    check.due("4 dry(-1)", x.dry(-1), Check.BEYOND);
    check.due("4 DRY stays", x.now(1), 0);
    check.due("4 dry(5)", x.dry(5), 0);
    check.due("4 DRY is", x.now(1), 5);
  }

  private static void now() {
    SneezeLights x = new SneezeLights();
    x.minutes(3);
    x.dry(6);
    x.house(0, 0, 1);
    x.house(11, 0, 99);
    x.house(2, 1, 0);
    x.house(3, 2, 9999);
    x.house(4, 2, 9999);
    x.sneezer(0, 0);
    x.sneezer(1, 5);
    x.set(1, 3, 99);
    check.due("5 MINUTE", x.now(0), 3);
    check.due("5 DRY", x.now(1), 6);
    check.due("5 LAMPS", x.now(2), 1 | 1 << 11);
    check.due("5 BOOKS", x.now(3), 4095 - 4);
    x.house(0, 1, 0);
    check.due("5 BOOKS without 0", x.now(3), 4095 - 5);
    check.due("5 COLD of all", x.now(5), 119);
    check.due("5 READ of all", x.now(6), 19998);
    check.due("5 what -1", x.now(-1), Check.BEYOND);
    check.due("5 what 7", x.now(7), Check.BEYOND);
  }

  private static void nowReady() {
    SneezeLights x = new SneezeLights();
    int[] holds = {30, 90, 20, 99, 90, 20};
    for (int kind = 0; kind < 6; kind++) {
      x.sneezer(kind, kind);
      x.set(kind, 4, holds[kind] - 1);
    }
    check.due("5 nobody is ready", x.now(4), 0);
    for (int kind = 0; kind < 6; kind++) {
      x.set(kind, 4, holds[kind]);
    }
    check.due("5 all are ready", x.now(4), 63);
    x.set(4, 4, 85);
    check.due("5 the bishop not", x.now(4), 63 - 16);
    x.house(9, 0, 1);
    check.due("5 the bishop with a lamp", x.now(4), 63);
  }
}
