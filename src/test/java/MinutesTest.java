/** Promises 11 to 16: minutes, on, then, lit, goes, well. */
public final class MinutesTest {
  private static final Check check = new Check();

  public static void main(String[] args) {
    lampsBurnDown();
    whoGoesOffIsFoundFirst();
    blowsAreLaidByNumbers();
    coldIsGiven();
    lampIsNeverMadeLess();
    countsAreHeld();
    babeTicklesByTheLampAfterItBurnt();
    minutes();
    on();
    then();
    aheadIsWhatComes();
    lit();
    goes();
    well();
    theTwoHundredthMinute();
    check.end();
  }

  private static void lampsBurnDown() {
    SneezeLights x = new SneezeLights();
    x.house(3, 0, 2);
    x.house(4, 0, 99);
    x.house(4, 1, 0);
    check.due("11 both burn", x.minutes(1), 0b11000);
    check.due("11 READ", x.houseOf(3, 2), 1);
    check.due("11 one is out", x.minutes(1), 0b10000);
    check.due("11 READ of 3", x.houseOf(3, 2), 2);
    x.minutes(1);
    check.due("11 READ stays", x.houseOf(3, 2), 2);
    check.due("11 LAMP", x.houseOf(4, 0), 96);
    check.due("11 a shut BOOK's READ", x.houseOf(4, 2), 3);
    check.due("11 MINUTE", x.now(0), 3);
  }

  private static void whoGoesOffIsFoundFirst() {
    SneezeLights x = new SneezeLights();
    x.sneezer(0, 0);
    x.set(0, 4, 30);
    x.set(0, 3, 99);
    x.sneezer(4, 9);
    x.set(1, 3, 0);
    x.set(1, 4, 74);
    // The bishop has 75 and HOLDS 90 when it is found out; the 4 lamps lit then come too late.
    check.due("11 four lamps", x.minutes(1), 0b11110);
    check.due("11 the bishop waits", x.of(1, 5), 0);
    check.due("11 is ready now", x.now(4), 0b10);
    x.minutes(1);
    check.due("11 the bishop went", x.of(1, 5), 1);
    check.due("11 lights to the end", x.now(2), 0b110000011110);
  }

  private static void blowsAreLaidByNumbers() {
    // The cold given by 0 makes what 1 lights more: 24 + 6 BLOWS 2 and burns 8.
    SneezeLights x = new SneezeLights();
    x.sneezer(0, 5);
    x.sneezer(0, 6);
    for (int i = 0; i < 2; i++) {
      x.set(i, 3, 24);
      x.set(i, 4, 30);
    }
    x.minutes(1);
    check.due("11 LAMP 6", x.houseOf(6, 0), 7);
    check.due("11 LAMP 7", x.houseOf(7, 0), 8);
    check.due("11 LAMP 8", x.houseOf(8, 0), 8);
    check.due("11 LAMP 9", x.houseOf(9, 0), 0);
    check.due("11 LAMP 5", x.houseOf(5, 0), 0);
    check.due("11 COLD 0", x.of(0, 3), 29);
    check.due("11 COLD 1", x.of(1, 3), 29);
    check.due("11 TICKLE 1", x.of(1, 4), 0);
  }

  private static void coldIsGiven() {
    SneezeLights x = new SneezeLights();
    int[] houses = {5, 5, 4, 6, 3, 7, 5, 6};
    for (int i = 0; i < 8; i++) {
      x.sneezer(i == 6 ? 3 : 1, houses[i]);
      x.set(i, 3, 50);
    }
    x.set(0, 4, 99);
    x.set(7, 3, 95);
    x.minutes(1);
    int[] want = {50, 56, 56, 56, 50, 50, 41, 99};
    for (int i = 0; i < 8; i++) {
      check.due("11 COLD " + i, x.of(i, 3), want[i]);
    }
    check.due("11 a doctor BLOWS none", doctorLights(), 0);
  }

  private static int doctorLights() {
    SneezeLights x = new SneezeLights();
    x.sneezer(3, 5);
    x.sneezer(1, 4);
    x.set(0, 4, 98);
    check.due("11 a doctor at 98", x.minutes(1), 0);
    check.due("11 stays", x.of(0, 5), 0);
    x.set(0, 4, 99);
    int lit = x.minutes(1);
    check.due("11 a doctor at 99", x.of(0, 5), 1);
    check.due("11 gives the cold", x.of(1, 3), 26);
    check.due("11 heals by 9", x.of(0, 3), 2);
    x.minutes(1);
    check.due("11 COLD is 0 at least", x.of(0, 3), 0);
    return lit;
  }

  private static void lampIsNeverMadeLess() {
    SneezeLights x = new SneezeLights();
    x.sneezer(1, 3);
    x.set(0, 2, 0);
    x.set(0, 3, 59);
    x.set(0, 4, 90);
    x.house(2, 0, 12);
    x.house(1, 0, 11);
    x.house(0, 1, 0);
    check.due("11 south", x.minutes(1), 0b110);
    check.due("11 11 is more than 10", x.houseOf(2, 0), 11);
    check.due("11 10 as it was", x.houseOf(1, 0), 10);
    check.due("11 shut", x.houseOf(0, 0), 0);
    check.due("11 its own", x.houseOf(3, 0), 0);
  }

  private static void countsAreHeld() {
    SneezeLights x = new SneezeLights();
    x.sneezer(2, 3);
    x.set(0, 5, 9999);
    x.set(0, 4, 99);
    x.house(0, 0, 5);
    x.house(0, 2, 9998);
    x.minutes(1);
    check.due("11 READ", x.houseOf(0, 2), 9999);
    x.minutes(1);
    check.due("11 READ is held", x.houseOf(0, 2), 9999);
    check.due("11 GONE OFF is held", x.of(0, 5), 9999);
    x.turn(0, 0);
    x.set(0, 4, 29);
    x.set(0, 3, 0);
    x.minutes(1);
    check.due("11 TICKLE below what it HOLDS", x.of(0, 4), 29);
    check.due("11 COLD is 0 at least", x.of(0, 3), 0);
  }

  private static void babeTicklesByTheLampAfterItBurnt() {
    SneezeLights x = new SneezeLights();
    x.sneezer(5, 3);
    x.house(3, 0, 1);
    check.due("11 TICKLES now", x.of(0, 6), 12);
    x.minutes(1);
    check.due("11 its lamp went out first", x.of(0, 4), 6);
    x.house(3, 0, 2);
    x.minutes(1);
    check.due("11 its lamp burns yet", x.of(0, 4), 6 + 2 * (19 / 4 - 2 + 3));
  }

  private static void minutes() {
    SneezeLights x = new SneezeLights();
    check.due("11 minutes(0)", x.minutes(0), Check.BEYOND);
    check.due("11 minutes(101)", x.minutes(101), Check.BEYOND);
    check.due("11 minutes(-1)", x.minutes(-1), Check.BEYOND);
    check.due("11 minutes(MIN)", x.minutes(Integer.MIN_VALUE), Check.BEYOND);
    check.due("11 minutes(MAX)", x.minutes(Integer.MAX_VALUE), Check.BEYOND);
    check.due("11 none went", x.now(0), 0);
    check.due("11 minutes(100)", x.minutes(100), 0);
    check.due("11 minutes(1)", x.minutes(1), 0);
    check.due("11 MINUTE", x.now(0), 101);
    // More calls than the 512 that are promised: the only way up to MINUTE 99999.
    SneezeLights y = new SneezeLights();
    for (int i = 0; i < 999; i++) {
      y.minutes(100);
    }
    check.due("11 at 99900", y.minutes(100), Check.STATE);
    check.due("11 to 99999", y.minutes(99), 0);
    check.due("11 no more", y.minutes(1), Check.STATE);
    check.due("11 BEYOND before STATE", y.minutes(101), Check.BEYOND);
    check.due("11 MINUTE stays", y.now(0), 99999);
    check.due("11 STATE counted", y.status(4), 2);
    y.house(0, 0, 50);
    check.due("13 AHEAD goes on all the same", y.then(0, 20, 0), 30);
  }

  private static void on() {
    SneezeLights x = new SneezeLights();
    x.sneezer(0, 2);
    x.set(0, 3, 75);
    x.set(0, 5, 4);
    check.due("12 COLD now", x.on(0, 0, 0), 75);
    check.due("12 TICKLE now", x.on(0, 0, 1), 0);
    check.due("12 GONE OFF now", x.on(0, 0, 2), 4);
    check.due("12 TICKLE in 1", x.on(0, 1, 1), 16);
    check.due("12 TICKLE in 2", x.on(0, 2, 1), 0);
    check.due("12 GONE OFF in 2", x.on(0, 2, 2), 5);
    check.due("12 COLD in 2", x.on(0, 2, 0), 73);
    check.due("12 COLD in 200", x.on(0, 200, 0), 0);
    check.due("12 n 201", x.on(0, 201, 0), Check.BEYOND);
    check.due("12 n -1", x.on(0, -1, 0), Check.BEYOND);
    check.due("12 what 3", x.on(0, 0, 3), Check.BEYOND);
    check.due("12 what -1", x.on(0, 0, -1), Check.BEYOND);
    check.due("12 no such one", x.on(1, 0, 0), Check.BEYOND);
    check.due("12 -1", x.on(-1, 0, 0), Check.BEYOND);
    check.due("12 nothing changes", x.of(0, 3), 75);
    check.due("12 no MINUTE goes", x.now(0), 0);
  }

  private static void then() {
    SneezeLights x = new SneezeLights();
    x.house(11, 0, 99);
    x.house(11, 2, 9950);
    check.due("13 LAMP now", x.then(11, 0, 0), 99);
    check.due("13 READ now", x.then(11, 0, 1), 9950);
    check.due("13 LAMP in 98", x.then(11, 98, 0), 1);
    check.due("13 LAMP in 200", x.then(11, 200, 0), 0);
    check.due("13 READ in 49", x.then(11, 49, 1), 9999);
    check.due("13 READ in 50", x.then(11, 50, 1), 9999);
    check.due("13 house 12", x.then(12, 0, 0), Check.BEYOND);
    check.due("13 house -1", x.then(-1, 0, 0), Check.BEYOND);
    check.due("13 n 201", x.then(0, 201, 0), Check.BEYOND);
    check.due("13 n -1", x.then(0, -1, 0), Check.BEYOND);
    check.due("13 what 2", x.then(0, 0, 2), Check.BEYOND);
    check.due("13 what -1", x.then(0, 0, -1), Check.BEYOND);
    check.due("13 nothing changes", x.houseOf(11, 0), 99);
  }

  private static void aheadIsWhatComes() {
    SneezeLights x = new SneezeLights();
    Check.winterOf(x, "bishop 3 cold 80 tickle 70; babe 4; child 5 south; doctor 6 cold 9; baron 4 cold 40; dry 1");
    int[] aheadTickle = new int[60];
    int[] aheadLamp = new int[60];
    for (int n = 0; n < 60; n++) {
      aheadTickle[n] = x.on(1, n, 1);
      aheadLamp[n] = x.then(4, n, 0);
    }
    for (int n = 0; n < 60; n++) {
      check.due("12 TICKLE in " + n, x.of(1, 4), aheadTickle[n]);
      check.due("13 LAMP in " + n, x.houseOf(4, 0), aheadLamp[n]);
      x.minutes(1);
    }
  }

  private static void lit() {
    SneezeLights x = new SneezeLights();
    check.due("14 out now", x.lit(5, 0), 0);
    check.due("14 never burns", x.lit(5, 1), Check.NONE);
    x.house(5, 0, 99);
    check.due("14 burns now", x.lit(5, 1), 0);
    check.due("14 out in 99", x.lit(5, 0), 99);
    check.due("14 house 12", x.lit(12, 0), Check.BEYOND);
    check.due("14 house -1", x.lit(-1, 0), Check.BEYOND);
    check.due("14 v 2", x.lit(0, 2), Check.BEYOND);
    check.due("14 v -1", x.lit(0, -1), Check.BEYOND);
    check.due("14 NONE counted", x.status(3), 1);
    SneezeLights y = slowBishop(69);
    check.due("14 burns when the bishop goes", y.lit(7, 1), 21);
    check.due("14 its own never", y.lit(6, 1), Check.NONE);
  }

  /** A bishop with no cold, so that it tickles by 1 a minute and holds 90. */
  private static SneezeLights slowBishop(int tickle) {
    SneezeLights x = new SneezeLights();
    x.sneezer(4, 6);
    x.set(0, 3, 0);
    x.set(0, 4, tickle);
    return x;
  }

  private static void goes() {
    SneezeLights x = slowBishop(0);
    check.due("15 in 90", x.goes(0), 90);
    x.set(0, 5, 9999);
    check.due("15 with a held count", x.goes(0), 90);
    x.set(0, 4, 99);
    check.due("15 in 1", x.goes(0), 1);
    x.turn(0, 0);
    x.set(0, 4, 29);
    check.due("15 never", x.goes(0), Check.NONE);
    check.due("15 no such one", x.goes(1), Check.BEYOND);
    check.due("15 -1", x.goes(-1), Check.BEYOND);
    check.due("15 nothing changes", x.of(0, 4), 29);
  }

  private static void well() {
    SneezeLights x = new SneezeLights();
    check.due("16 nobody is there", x.well(), 0);
    x.sneezer(0, 0);
    x.dry(9);
    check.due("16 a sneezer", x.well(), 20);
    x.sneezer(2, 11);
    x.set(1, 3, 99);
    check.due("16 a child is given none", x.well() > 20 ? 1 : 0, 1);
    x.set(0, 3, 0);
    x.set(1, 3, 0);
    check.due("16 now", x.well(), 0);
    x.sneezer(1, 5);
    check.due("16 a baron never", x.well(), Check.NONE);
    x.set(2, 3, 0);
    check.due("16 and without", x.well(), 0);
  }

  private static SneezeLights told(String winter) {
    SneezeLights x = new SneezeLights();
    check.holds("it is a winter: " + winter, Check.winterOf(x, winter) > 0);
    return x;
  }

  /** What comes in 200 minutes is told, what comes in 201 is not yet. */
  private static void theTwoHundredthMinute() {
    SneezeLights x = told("dry 3;baron 4 south cold 8 tickle 26;bishop 5 south cold 34 tickle 22");
    check.due("15 in 200", x.goes(0), 200);
    x = told("dry 6;bishop 6 south cold 69 tickle 5;baron 5 south cold 22 tickle 9");
    check.due("15 in 201", x.goes(1), Check.NONE);
    check.due("14 in 201", x.lit(1, 1), Check.NONE);
    x.minutes(1);
    check.due("15 a minute later", x.goes(1), 200);
    check.due("14 a minute later", x.lit(1, 1), 200);
    x = told("dry 2;baron 7 south cold 39 tickle 2;baron 6 south cold 6 tickle 1;babe 4 cold 99 tickle 39");
    check.due("14 in 200", x.lit(0, 1), 200);
    x = told("dry 9;babe 5 south cold 14 tickle 36;doctor 4 south cold 22 tickle 34;child 6 cold 58 tickle 30");
    check.due("16 in 200", x.well(), 200);
    x = told("dry 8;doctor 7 cold 34 tickle 72;child 5 cold 62 tickle 11;babe 4 south cold 9 tickle 13");
    check.due("16 in 201", x.well(), Check.NONE);
    x.minutes(1);
    check.due("16 a minute later", x.well(), 200);
  }
}
