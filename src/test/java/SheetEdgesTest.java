/** Terms 3 and promises 27 to 32: empty and full sheets, numbers that don't fit, runs up to a sheet's ends. */
public final class SheetEdgesTest {
  private static final Check check = new Check();
  private static final int[] WIDTHS = {8, 16, 64};

  public static void main(String[] args) {
    emptyAndFull();
    anewAllAreNone();
    sheetsAreApart();
    missing();
    eightBits();
    sixteenBits();
    sixtyFourBits();
    numbersLikeFindings();
    copyOfAllAndNone();
    copyAsTheyAllWere();
    copyKeepsWhatIsThere();
    laysEnds();
    laysByBits();
    bookEnds();
    readEnds();
    readByBits();
    check.end();
  }

  private static long numberOf(SneezeLights x, int s, int i) {
    long was = x.write(s, i, 0);
    x.write(s, i, was);
    return was;
  }

  /** "SHEETS 0 to 3 are rows of at most 40 numbers of 8, 16 or 64 bits." */
  private static void emptyAndFull() {
    for (int bits : WIDTHS) {
      for (int s = 0; s < 4; s++) {
        for (int n : new int[] {0, 1, 39, 40}) {
          SneezeLights x = new SneezeLights();
          check.due("27 n", x.sheet(s, bits, n), n);
          for (int i = 0; i < n; i++) {
            check.due("27 all 0", x.write(s, i, i + 1), 0);
          }
          check.due("28 no number " + n, x.write(s, n, 1), Check.BEYOND);
          check.due("28 no number -1", x.write(s, -1, 1), Check.BEYOND);
          for (int i = 0; i < n; i++) {
            check.due("28 what it was", x.write(s, i, 0), i + 1);
          }
        }
      }
    }
  }

  /** "A sheet has n numbers, all 0": also if it had others, of another width, or more or fewer. */
  private static void anewAllAreNone() {
    for (int bits : WIDTHS) {
      SneezeLights x = new SneezeLights();
      x.sheet(2, 64, 40);
      for (int i = 0; i < 40; i++) {
        x.write(2, i, -1);
      }
      check.due("27 fewer", x.sheet(2, bits, 3), 3);
      check.due("28 no number 3", x.write(2, 3, 1), Check.BEYOND);
      check.due("27 0", x.write(2, 2, 9), 0);
      check.due("27 more", x.sheet(2, bits, 40), 40);
      for (int i = 0; i < 40; i++) {
        check.due("27 all 0", x.write(2, i, 5), 0);
      }
      check.due("27 just as it was", x.sheet(2, bits, 40), 40);
      check.due("27 all 0 then", x.write(2, 39, 5), 0);
      x.sheet(2, 0, 0);
      x.sheet(2, bits, 40);
      check.due("27 0 after it was MISSING", x.write(2, 39, 5), 0);
    }
  }

  private static void sheetsAreApart() {
    SneezeLights x = new SneezeLights();
    for (int s = 0; s < 4; s++) {
      x.sheet(s, 64, 40);
      x.write(s, 0, 100 + s);
      x.write(s, 39, 200 + s);
    }
    x.sheet(1, 0, 40);
    x.sheet(2, 8, 40);
    for (int s = 0; s < 4; s += 3) {
      check.due("27 the first of another", numberOf(x, s, 0), 100 + s);
      check.due("27 the last of another", numberOf(x, s, 39), 200 + s);
    }
    check.due("27 MISSING", x.write(1, 0, 0), Check.MISSING);
    check.due("27 anew", x.write(2, 39, 0), 0);
  }

  /** "Bits 0: it is MISSING: n (0 if it is MISSING)." */
  private static void missing() {
    for (int s = 0; s < 4; s++) {
      SneezeLights x = new SneezeLights();
      check.due("27 at first", x.lays(s), Check.MISSING);
      check.due("27 is and becomes MISSING", x.sheet(s, 0, 0), 0);
      check.due("27 with 40", x.sheet(s, 0, 40), 0);
      check.due("27 yet", x.lays(s), Check.MISSING);
      check.due("27 one without numbers", x.sheet(s, 8, 0), 0);
      check.due("27 is there", x.lays(s), 0);
      check.due("27 gone again", x.sheet(s, 0, 17), 0);
      check.due("27 MISSING then", x.lays(s), Check.MISSING);
    }
  }

  private static void becomes(int bits, long v, long due) {
    SneezeLights x = new SneezeLights();
    x.sheet(0, bits, 2);
    check.due("28 it was 0", x.write(0, 1, v), 0);
    check.due("28 " + v + " in " + bits + " bits", x.write(0, 1, 0), due);
    check.due("28 the other number stays", x.write(0, 0, 0), 0);
    check.due("28 no finding", x.status(-1), 0);
  }

  /** "Number i of a sheet becomes v (its lowest bits)." */
  private static void eightBits() {
    long[][] due = {
      {127, 127}, {128, -128}, {255, -1}, {256, 0}, {257, 1}, {-1, -1}, {-128, -128}, {-129, 127}, {-256, 0},
      {0x17fL, 127}, {1L << 32, 0}, {Long.MAX_VALUE, -1}, {Long.MIN_VALUE, 0}, {0x1234567890abcdefL, (byte) 0xef},
    };
    for (long[] d : due) {
      becomes(8, d[0], d[1]);
    }
  }

  private static void sixteenBits() {
    long[][] due = {
      {128, 128}, {255, 255}, {32767, 32767}, {32768, -32768}, {65535, -1}, {65536, 0}, {65537, 1}, {-1, -1},
      {-32768, -32768}, {-32769, 32767}, {1L << 32, 0}, {Long.MAX_VALUE, -1}, {Long.MIN_VALUE, 0},
      {0x1234567890abcdefL, (short) 0xcdef},
    };
    for (long[] d : due) {
      becomes(16, d[0], d[1]);
    }
  }

  private static void sixtyFourBits() {
    long[] due = {
      127, 128, 65536, -1, Integer.MAX_VALUE, 1L + Integer.MAX_VALUE, Integer.MIN_VALUE, Integer.MIN_VALUE - 1L,
      1L << 32, Long.MAX_VALUE, Long.MIN_VALUE, 0x1234567890abcdefL,
    };
    for (long d : due) {
      becomes(64, d, d);
    }
  }

  /** "FINDINGS are answers below -1000000000 (in longs, too)": a number that looks like one isn't counted. */
  private static void numbersLikeFindings() {
    SneezeLights x = new SneezeLights();
    x.sheet(0, 64, 1);
    for (long v = -1000000001; v >= -1000000007; v--) {
      x.write(0, 0, v);
      check.due("28 what it was", x.write(0, 0, 0), v);
    }
    check.due("37 none of them is counted", x.status(-1), 0);
    check.due("28 this one is", x.write(0, 1, 0), Check.BEYOND);
    check.due("37 one", x.status(-1), 1);
  }

  private static SneezeLights counted(int bits) {
    SneezeLights x = new SneezeLights();
    for (int s = 0; s < 4; s++) {
      x.sheet(s, bits, 40);
    }
    for (int i = 0; i < 40; i++) {
      x.write(1, i, i + 1);
    }
    return x;
  }

  private static void copyOfAllAndNone() {
    for (int bits : WIDTHS) {
      SneezeLights x = counted(bits);
      check.due("29 all", x.copy(1, 0, 2, 0, 40), 40);
      check.due("29 none", x.copy(1, 0, 3, 0, 0), 0);
      check.due("29 none at the ends", x.copy(1, 40, 3, 40, 0), 0);
      check.due("29 the first to the last", x.copy(1, 0, 3, 39, 1), 1);
      check.due("29 the last to the first", x.copy(1, 39, 3, 0, 1), 1);
      for (int i = 0; i < 40; i++) {
        check.due("29 from", x.write(1, i, 0), i + 1);
        check.due("29 to", x.write(2, i, 0), i + 1);
        check.due("29 to the ends", x.write(3, i, 0), i == 0 ? 40 : i == 39 ? 1 : 0);
        check.due("29 another", x.write(0, i, 0), 0);
      }
      check.due("29 of none to none", emptyCopy(bits), 0);
    }
  }

  private static int emptyCopy(int bits) {
    SneezeLights x = new SneezeLights();
    x.sheet(0, bits, 0);
    x.sheet(1, bits, 0);
    check.due("29 one of none", x.copy(0, 0, 1, 0, 1), Check.BEYOND);
    check.due("29 of itself", x.copy(0, 0, 0, 0, 0), 0);
    return x.copy(0, 0, 1, 0, 0);
  }

  /** "n numbers of a sheet from one on come to another one from one on (as they all were)." */
  private static void copyAsTheyAllWere() {
    for (int bits : WIDTHS) {
      for (int by : new int[] {1, 39, 20}) {
        SneezeLights up = counted(bits);
        check.due("29 up by " + by, up.copy(1, 0, 1, by, 40 - by), 40 - by);
        SneezeLights down = counted(bits);
        check.due("29 down by " + by, down.copy(1, by, 1, 0, 40 - by), 40 - by);
        for (int i = 0; i < 40; i++) {
          check.due("29 up", up.write(1, i, 0), i < by ? i + 1 : i - by + 1);
          check.due("29 down", down.write(1, i, 0), i < 40 - by ? i + by + 1 : i + 1);
        }
      }
    }
  }

  private static void copyKeepsWhatIsThere() {
    SneezeLights x = new SneezeLights();
    x.sheet(0, 64, 2);
    x.sheet(1, 64, 3);
    x.write(0, 0, Long.MIN_VALUE);
    x.write(0, 1, Long.MAX_VALUE);
    x.write(1, 2, 5);
    check.due("29 of two sizes", x.copy(0, 0, 1, 0, 2), 2);
    check.due("29 the first is whole", x.write(1, 0, 0), Long.MIN_VALUE);
    check.due("29 the second is whole", x.write(1, 1, 0), Long.MAX_VALUE);
    check.due("29 the third stays", x.write(1, 2, 0), 5);
    check.due("29 three are too many for 0", x.copy(1, 0, 0, 0, 3), Check.BEYOND);
    check.due("29 nor has it three", x.copy(0, 0, 1, 0, 3), Check.BEYOND);
  }

  private static SneezeLights street(int ones) {
    SneezeLights x = new SneezeLights();
    for (int i = 0; i < ones; i++) {
      x.sneezer(1, i);
    }
    return x;
  }

  /** "Those that aren't 0 to 99, or stand for none, are left out: how many came." */
  private static void laysEnds() {
    for (int ones = 0; ones <= 8; ones++) {
      for (int n : new int[] {0, 1, 7, 8, 9, 40}) {
        SneezeLights x = street(ones);
        x.sheet(0, 8, n);
        for (int i = 0; i < n; i++) {
          x.write(0, i, i + 1);
        }
        check.due("30 " + n + " for " + ones, x.lays(0), Math.min(n, ones));
        for (int i = 0; i < ones; i++) {
          check.due("30 COLD", x.of(i, 3), i < n ? i + 1 : 20);
        }
      }
    }
    SneezeLights x = street(8);
    x.sheet(0, 64, 8);
    long[] numbers = {0, 99, 100, -1, Long.MAX_VALUE, Long.MIN_VALUE, 1L << 32, (1L << 32) + 99};
    for (int i = 0; i < 8; i++) {
      x.write(0, i, numbers[i]);
    }
    check.due("30 0 and 99 alone", x.lays(0), 2);
    int[] due = {0, 99, 20, 20, 20, 20, 20, 20};
    for (int i = 0; i < 8; i++) {
      check.due("30 COLD of " + numbers[i], x.of(i, 3), due[i]);
      check.due("30 the number stays", x.write(0, i, 0), numbers[i]);
    }
  }

  private static void laysByBits() {
    SneezeLights x = street(8);
    x.sheet(0, 8, 8);
    // What stands on the sheet counts: 256 is 0 there, 355 is 99, 356 is 100, 200 and 128 are below 0.
    long[] numbers = {256, 355, 356, 200, 128, 127, -1, -157};
    for (int i = 0; i < 8; i++) {
      x.write(0, i, numbers[i]);
    }
    check.due("30 in 8 bits", x.lays(0), 3);
    check.due("30 256", x.of(0, 3), 0);
    check.due("30 355", x.of(1, 3), 99);
    check.due("30 356", x.of(2, 3), 20);
    check.due("30 -157", x.of(7, 3), 99);
    x.sheet(1, 16, 4);
    x.write(1, 0, 65536 + 7);
    x.write(1, 1, 65536 + 100);
    x.write(1, 2, 256);
    x.write(1, 3, 32768);
    check.due("30 in 16 bits", x.lays(1), 1);
    check.due("30 65543", x.of(0, 3), 7);
    check.due("30 65636", x.of(1, 3), 99);
  }

  /** "TICKLE of one 0, 1, 2, .. MINUTES AHEAD comes to a sheet, as many as it has numbers: how many." */
  private static void bookEnds() {
    for (int bits : WIDTHS) {
      for (int n : new int[] {0, 1, 2, 40}) {
        SneezeLights x = street(8);
        // A BISHOP with no cold tickles by 1: 51 to 90 are the last before it goes, and 99 is the greatest.
        x.turn(7, 4);
        x.set(7, 3, 0);
        x.set(7, 4, 50);
        x.sheet(3, bits, n);
        check.due("31 as many as it has", x.book(3, 7), n);
        for (int i = 0; i < n; i++) {
          check.due("31 in " + i, x.write(3, i, 0), i < 40 ? 50 + i : 0);
        }
        check.due("31 none behind", x.write(3, n, 0), Check.BEYOND);
        check.due("31 TICKLE is as it was", x.of(7, 4), 50);
        check.due("31 no MINUTE went", x.now(0), 0);
      }
      SneezeLights x = street(1);
      x.set(0, 4, 99);
      x.sheet(0, bits, 2);
      check.due("31 two", x.book(0, 0), 2);
      check.due("31 99 now", x.write(0, 0, 0), 99);
      check.due("31 0 then", x.write(0, 1, 0), 0);
    }
  }

  /** "How many pairs of a KIND and a COLD (0 to 99) of it make it just so." */
  private static void readEnds() {
    for (int bits : WIDTHS) {
      SneezeLights x = street(8);
      x.set(7, 4, 99);
      x.sheet(0, bits, 0);
      check.due("32 none to be read: all pairs", x.read(0, 7), 600);
      x.sheet(0, bits, 1);
      check.due("32 not the TICKLE that it has", x.read(0, 7), 0);
      x.write(0, 0, 99);
      check.due("32 the TICKLE that it has", x.read(0, 7), 600);
      x.sheet(0, bits, 2);
      x.write(0, 0, 99);
      check.due("32 all go off", x.read(0, 7), 600);
      for (long wrong : new long[] {-1, 100, 1, 98}) {
        x.write(0, 0, wrong);
        check.due("32 " + wrong, x.read(0, 7), 0);
      }
    }
    SneezeLights x = street(1);
    x.sheet(0, 8, 40);
    check.due("32 40 numbers", x.book(0, 0), 40);
    // A BARON of 16 to 23 TICKLES 1, and a BISHOP of 0 to 15; neither heals.
    check.due("32 just those", x.read(0, 0), 8 + 16);
    x.write(0, 39, 77);
    check.due("32 the last is another", x.read(0, 0), 0);
    check.due("32 KIND is as it was", x.of(0, 0), 1);
    check.due("32 COLD is as it was", x.of(0, 3), 20);
    readWhoDoesNotTickle();
  }

  private static void readWhoDoesNotTickle() {
    SneezeLights x = street(1);
    x.set(0, 3, 0);
    x.sheet(0, 8, 40);
    x.book(0, 0);
    // All 0: a SNEEZER of 0 to 11, a BARON of 0 to 15 and each DOCTOR.
    check.due("32 who doesn't tickle", x.read(0, 0), 12 + 16 + 100);
    x.dry(9);
    check.due("32 nor in the dry", x.read(0, 0), 40 + 44 + 100);
    x.dry(0);
    check.due("32 nor in the wet", x.read(0, 0), 4 + 8 + 100);
    // It goes off in each second minute, and is one less in each: 98 by 4 is as much as 99 by 4, and so on down.
    x.turn(0, 0);
    x.set(0, 3, 99);
    x.sheet(0, 64, 40);
    x.book(0, 0);
    check.due("32 one of 98 or 99", x.read(0, 0), 2);
    x.set(0, 3, 0);
    x.book(0, 0);
    check.due("32 the pairs of 0", x.read(0, 0), 4 + 8 + 100);
  }

  private static void readByBits() {
    SneezeLights x = street(1);
    int[] wraps = {256, 65536};
    for (int k = 0; k < 2; k++) {
      x.sheet(0, WIDTHS[k], 1);
      x.write(0, 0, wraps[k]);
      check.due("32 0 by its lowest bits", x.read(0, 0), 600);
      x.write(0, 0, wraps[k] - 1);
      check.due("32 -1 by its lowest bits", x.read(0, 0), 0);
    }
    x.sheet(0, 64, 1);
    for (long v : new long[] {256, 65536, 1L << 32, Long.MIN_VALUE}) {
      x.write(0, 0, v);
      check.due("32 " + v + " is no TICKLE", x.read(0, 0), 0);
    }
  }
}
