/** Promises 27 to 32: sheet, write, copy, lays, book, read. */
public final class SheetsTest {
  private static final Check check = new Check();

  public static void main(String[] args) {
    sheet();
    write();
    widths();
    copy();
    copyOrder();
    copyOverlaps();
    lays();
    book();
    read();
    check.end();
  }

  private static void sheet() {
    SneezeLights x = new SneezeLights();
    check.due("27 40 of 8", x.sheet(0, 8, 40), 40);
    check.due("27 none of 16", x.sheet(1, 16, 0), 0);
    check.due("27 3 of 64", x.sheet(3, 64, 3), 3);
    check.due("27 no sheet 4", x.sheet(4, 8, 1), Check.BEYOND);
    check.due("27 no sheet -1", x.sheet(-1, 8, 1), Check.BEYOND);
    check.due("27 no 32 bits", x.sheet(0, 32, 1), Check.BEYOND);
    check.due("27 no -8 bits", x.sheet(0, -8, 1), Check.BEYOND);
    check.due("27 other bits before SIZE", x.sheet(0, 1, -1), Check.BEYOND);
    check.due("27 no such sheet before SIZE", x.sheet(4, 8, -1), Check.BEYOND);
    check.due("27 SIZE", x.sheet(0, 8, -1), Check.SIZE);
    check.due("27 SIZE with bits 0", x.sheet(0, 0, -1), Check.SIZE);
    check.due("27 SIZE far", x.sheet(0, 64, Integer.MIN_VALUE), Check.SIZE);
    check.due("27 41", x.sheet(0, 8, 41), Check.BEYOND);
    check.due("27 41 with bits 0", x.sheet(0, 0, 41), Check.BEYOND);
    check.due("27 it stays", x.write(0, 39, 7), 0);
    check.due("27 SIZE counted", x.status(6), 3);
    check.due("27 anew", x.sheet(0, 8, 40), 40);
    check.due("27 all 0", x.write(0, 39, 7), 0);
    check.due("27 MISSING", x.sheet(0, 0, 40), 0);
    check.due("27 is MISSING", x.write(0, 0, 1), Check.MISSING);
    check.due("27 an empty one is not", x.write(1, 0, 1), Check.BEYOND);
    check.due("27 MISSING counted", x.status(5), 1);
  }

  private static void write() {
    SneezeLights x = new SneezeLights();
    check.due("28 no such sheet", x.write(4, 0, 1), Check.BEYOND);
    check.due("28 -1", x.write(-1, 0, 1), Check.BEYOND);
    check.due("28 MISSING", x.write(2, 99, 1), Check.MISSING);
    x.sheet(2, 64, 2);
    check.due("28 number 2", x.write(2, 2, 1), Check.BEYOND);
    check.due("28 number -1", x.write(2, -1, 1), Check.BEYOND);
    check.due("28 number MIN", x.write(2, Integer.MIN_VALUE, 1), Check.BEYOND);
    check.due("28 what it was", x.write(2, 1, Long.MIN_VALUE), 0);
    check.due("28 whole", x.write(2, 1, -1000000001L), Long.MIN_VALUE);
    check.due("28 one that looks like a finding", x.write(2, 1, Long.MAX_VALUE), -1000000001L);
    check.due("28 isn't counted", x.status(-1), 6);
    check.due("28 the other", x.write(2, 0, 5), 0);
    check.due("28 greatest", x.write(2, 1, 0), Long.MAX_VALUE);
  }

  private static void widths() {
    SneezeLights x = new SneezeLights();
    x.sheet(0, 8, 1);
    x.sheet(1, 16, 1);
    long[] values = {127, 128, 255, 256, -1, -128, -129, 32767, 32768, 65535, 65536, 0x123456789abcdef0L, Long.MIN_VALUE};
    for (long v : values) {
      x.write(0, 0, v);
      check.due("28 lowest 8 of " + v, x.write(0, 0, 0), (byte) v);
      x.write(1, 0, v);
      check.due("28 lowest 16 of " + v, x.write(1, 0, 0), (short) v);
    }
  }

  private static SneezeLights counted(int bits, int n, int t, int bitsOfT, int nOfT) {
    SneezeLights x = new SneezeLights();
    x.sheet(0, bits, n);
    for (int i = 0; i < n; i++) {
      x.write(0, i, i + 1);
    }
    x.sheet(t, bitsOfT, nOfT);
    return x;
  }

  private static void dueNumbers(SneezeLights x, int s, long... want) {
    for (int i = 0; i < want.length; i++) {
      long got = x.write(s, i, 0);
      x.write(s, i, got);
      check.due("29 number " + i + " of sheet " + s, got, want[i]);
    }
  }

  private static void copy() {
    for (int bits : new int[] {8, 16, 64}) {
      SneezeLights x = counted(bits, 5, 3, bits, 4);
      check.due("29 three", x.copy(0, 2, 3, 1, 3), 3);
      dueNumbers(x, 3, 0, 3, 4, 5);
      dueNumbers(x, 0, 1, 2, 3, 4, 5);
      check.due("29 none at the ends", x.copy(0, 5, 3, 4, 0), 0);
      check.due("29 a whole one", x.copy(3, 0, 3, 0, 4), 4);
      dueNumbers(x, 3, 0, 3, 4, 5);
      int[][] wrong = {
        {6, 0, 0}, {0, 5, 0}, {-1, 0, 1}, {0, -1, 1}, {0, 0, -1}, {0, 0, 5}, {3, 0, 3}, {0, 2, 3},
        {Integer.MAX_VALUE, 0, 1}, {0, Integer.MAX_VALUE, 1}, {1, 1, Integer.MAX_VALUE},
        {Integer.MIN_VALUE, 0, 1}, {0, Integer.MIN_VALUE, 0}, {0, 0, Integer.MIN_VALUE},
      };
      for (int[] w : wrong) {
        check.due("29 copy(0, " + w[0] + ", 3, " + w[1] + ", " + w[2] + ")", x.copy(0, w[0], 3, w[1], w[2]), Check.BEYOND);
      }
      dueNumbers(x, 3, 0, 3, 4, 5);
    }
  }

  private static void copyOrder() {
    SneezeLights x = counted(8, 5, 1, 16, 5);
    check.due("29 no such sheet", x.copy(4, 0, 0, 0, 1), Check.BEYOND);
    check.due("29 nor -1", x.copy(0, 0, -1, 0, 1), Check.BEYOND);
    check.due("29 BEYOND before MISSING", x.copy(2, 0, 4, 0, 1), Check.BEYOND);
    check.due("29 MISSING", x.copy(2, 0, 0, 0, 1), Check.MISSING);
    check.due("29 MISSING too", x.copy(0, -1, 2, 0, 1), Check.MISSING);
    check.due("29 KIND", x.copy(0, 0, 1, 0, 1), Check.KIND);
    check.due("29 KIND before BEYOND", x.copy(1, -1, 0, 0, 99), Check.KIND);
    check.due("29 KIND of none", x.copy(0, 0, 1, 0, 0), Check.KIND);
  }

  private static void copyOverlaps() {
    SneezeLights up = counted(8, 6, 1, 8, 0);
    check.due("29 up", up.copy(0, 0, 0, 2, 4), 4);
    dueNumbers(up, 0, 1, 2, 1, 2, 3, 4);
    SneezeLights down = counted(64, 6, 1, 8, 0);
    check.due("29 down", down.copy(0, 2, 0, 0, 4), 4);
    dueNumbers(down, 0, 3, 4, 5, 6, 5, 6);
  }

  private static void lays() {
    SneezeLights x = new SneezeLights();
    check.due("30 no such sheet", x.lays(4), Check.BEYOND);
    check.due("30 -1", x.lays(-1), Check.BEYOND);
    check.due("30 MISSING", x.lays(0), Check.MISSING);
    x.sheet(0, 64, 6);
    long[] numbers = {0, 99, 100, -1, 4294967296L, 50};
    for (int i = 0; i < 6; i++) {
      x.write(0, i, numbers[i]);
    }
    check.due("30 nobody", x.lays(0), 0);
    for (int i = 0; i < 5; i++) {
      x.sneezer(0, i);
    }
    check.due("30 two", x.lays(0), 2);
    int[] want = {0, 99, 20, 20, 20};
    for (int i = 0; i < 5; i++) {
      check.due("30 COLD " + i, x.of(i, 3), want[i]);
    }
    x.sneezer(0, 5);
    x.sneezer(0, 6);
    check.due("30 three", x.lays(0), 3);
    check.due("30 COLD 5", x.of(5, 3), 50);
    check.due("30 COLD 6", x.of(6, 3), 20);
    x.sheet(1, 8, 2);
    x.write(1, 0, 200);
    check.due("30 200 has a sign in 8 bits", x.lays(1), 1);
  }

  private static void book() {
    SneezeLights x = new SneezeLights();
    check.due("31 no such sheet", x.book(4, 0), Check.BEYOND);
    check.due("31 MISSING before the sneezer", x.book(0, 0), Check.MISSING);
    x.sheet(0, 8, 5);
    check.due("31 no such one", x.book(0, 0), Check.BEYOND);
    x.sneezer(0, 2);
    check.due("31 nor -1", x.book(0, -1), Check.BEYOND);
    x.set(0, 3, 75);
    x.set(0, 4, 7);
    check.due("31 five", x.book(0, 0), 5);
    dueNumbers(x, 0, 7, 23, 0, 16, 0);
    check.due("31 nothing else changes", x.of(0, 4), 7);
    check.due("31 no MINUTE goes", x.now(0), 0);
    x.sheet(1, 16, 0);
    check.due("31 none", x.book(1, 0), 0);
    x.sheet(2, 64, 40);
    x.sheet(3, 64, 1);
    x.write(3, 0, 12345);
    check.due("31 forty", x.book(2, 0), 40);
    check.due("31 the sheet behind it", x.write(3, 0, 0), 12345);
    for (int i = 0; i < 40; i++) {
      check.due("31 number " + i, x.write(2, i, 0), x.on(0, i, 1));
    }
  }

  private static void read() {
    SneezeLights x = new SneezeLights();
    check.due("32 no such sheet", x.read(-1, 0), Check.BEYOND);
    check.due("32 MISSING before the sneezer", x.read(0, 0), Check.MISSING);
    x.sheet(0, 64, 0);
    check.due("32 no such one", x.read(0, 0), Check.BEYOND);
    x.sneezer(0, 2);
    check.due("32 nor -1", x.read(0, -1), Check.BEYOND);
    check.due("32 all of them", x.read(0, 0), 600);
    x.sheet(0, 64, 1);
    check.due("32 TICKLE now", x.read(0, 0), 600);
    x.write(0, 0, 1);
    check.due("32 another", x.read(0, 0), 0);
    x.write(0, 0, 4294967296L);
    check.due("32 one that is 0 in 32 bits", x.read(0, 0), 0);
    x.sheet(0, 64, 2);
    x.write(0, 1, 12);
    // sneezer 56..59; baron none (11 at most is (24 - 2) / 2); child and babe 44..47; bishop 96..99; doctor none.
    check.due("32 twelve in a minute", x.read(0, 0), 16);
    x.write(0, 1, 0);
    // sneezer 0..11; baron 0..15; doctor 100 of them; bishop 1 at least; child and babe 76..99, who go off at 20.
    check.due("32 none in a minute", x.read(0, 0), 12 + 16 + 100 + 2 * 24);
    check.due("32 nothing changes", x.of(0, 0) * 1000 + x.of(0, 3), 20);
    readAgainstTryingEach();
  }

  private static void readAgainstTryingEach() {
    SneezeLights x = new SneezeLights();
    Check.winterOf(x, "baron 2 cold 60 tickle 80; babe 3 tickle 9; child 4");
    x.sheet(0, 8, 3);
    x.book(0, 1);
    int pairs = 0;
    for (int kind = 0; kind < 6; kind++) {
      for (int cold = 0; cold <= 99; cold++) {
        SneezeLights y = new SneezeLights();
        Check.winterOf(y, "baron 2 cold 60 tickle 80; babe 3 tickle 9; child 4");
        y.turn(1, kind);
        y.set(1, 3, cold);
        boolean same = true;
        for (int i = 0; i < 3; i++) {
          same &= x.on(1, i, 1) == y.on(1, i, 1);
        }
        pairs += same ? 1 : 0;
      }
    }
    check.due("32 as many as do", x.read(0, 1), pairs);
    check.holds("32 some do", pairs > 0);
  }
}
