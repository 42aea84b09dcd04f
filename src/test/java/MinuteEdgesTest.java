/** Terms 1 and 2, promises 11 to 16: how a minute holds each number, where the street ends, and the last minutes AHEAD. */
public final class MinuteEdgesTest {
  private static final Check check = new Check();

  public static void main(String[] args) {
    lampIsOutAtNone();
    lampStaysAsItIsIfMore();
    lampByATenthOfCold();
    readIsHeld();
    tickleJustBelowAndAtWhatItHolds();
    bishopWithAllLamps();
    lampsThatGoOutDontCount();
    tickleIs99AtMost();
    goneOffIsHeld();
    coldIs99AtMost();
    coldIs0AtLeast();
    ticklesAre0AtLeast();
    theStreetEndsAt11();
    theStreetEndsAt0();
    besideIsOneHouse();
    shutIsNotLit();
    minuteIs99999AtMost();
    aheadOfNone();
    aheadOf200();
    litAtOnceAndLast();
    goesAtOnceAndNever();
    wellAtOnceAndNever();
    check.end();
  }

  /** A street with one sneezer of a kind at a house, with a COLD and a TICKLE. */
  private static SneezeLights one(int kind, int house, int cold, int tickle) {
    SneezeLights x = new SneezeLights();
    add(x, kind, house, cold, tickle);
    return x;
  }

  private static int add(SneezeLights x, int kind, int house, int cold, int tickle) {
    int i = x.sneezer(kind, house);
    x.set(i, 3, cold);
    x.set(i, 4, tickle);
    return i;
  }

  /** "LAMP (minutes that it burns yet: 0 to 99)": 1 goes out, 0 stays and isn't read by. */
  private static void lampIsOutAtNone() {
    SneezeLights x = new SneezeLights();
    x.house(0, 0, 1);
    x.house(11, 0, 99);
    check.due("11 the one of 1 is out", x.minutes(1), 2048);
    check.due("11 LAMP 0", x.houseOf(0, 0), 0);
    check.due("11 READ 0", x.houseOf(0, 2), 1);
    check.due("11 LAMP 99 is 98", x.houseOf(11, 0), 98);
    check.due("11 98 more", x.minutes(98), 0);
    check.due("11 LAMP 0 stays", x.houseOf(0, 0), 0);
    check.due("11 READ 0 stays", x.houseOf(0, 2), 1);
    check.due("11 READ 11", x.houseOf(11, 2), 99);
    x.minutes(1);
    check.due("11 READ 11 stays", x.houseOf(11, 2), 99);
  }

  /** "Its LAMP becomes 5 and a tenth of COLD (cut), if that is more": of less, as much and more. */
  private static void lampStaysAsItIsIfMore() {
    SneezeLights x = one(1, 5, 99, 99);
    x.house(6, 0, 14);
    x.house(7, 0, 15);
    x.house(8, 0, 16);
    x.house(9, 0, 99);
    x.minutes(1);
    check.due("11 13 becomes 14", x.houseOf(6, 0), 14);
    check.due("11 14 is as much", x.houseOf(7, 0), 14);
    check.due("11 15 is more", x.houseOf(8, 0), 15);
    check.due("11 98 is more", x.houseOf(9, 0), 98);
    check.due("11 0 becomes 14", x.houseOf(10, 0), 14);
  }

  private static void lampByATenthOfCold() {
    int[][] due = {{0, 5}, {9, 5}, {10, 6}, {19, 6}, {89, 13}, {90, 14}, {99, 14}};
    for (int[] d : due) {
      SneezeLights x = one(0, 5, d[0], 99);
      x.minutes(1);
      check.due("11 LAMP by COLD " + d[0], x.houseOf(6, 0), d[1]);
    }
  }

  /** "READ (minutes in which its LAMP burnt: held to 9999)." */
  private static void readIsHeld() {
    SneezeLights x = new SneezeLights();
    x.house(0, 0, 99);
    x.house(0, 2, 9997);
    int[] due = {9998, 9999, 9999, 9999};
    for (int d : due) {
      x.minutes(1);
      check.due("11 READ", x.houseOf(0, 2), d);
    }
    check.due("11 the LAMP burns on", x.houseOf(0, 0), 95);
    check.due("13 AHEAD too", x.then(0, 90, 1), 9999);
    check.due("5 READ of all", x.now(6), 9999);
  }

  /** "Who then has TICKLE of what it HOLDS, or more, goes off": 1 below it doesn't. */
  private static void tickleJustBelowAndAtWhatItHolds() {
    // Without a cold a CHILD and a BABE tickle by 3 in the minute, a BISHOP by 1, others by none.
    int[] justBelow = {29, 89, 16, 98, 88, 16};
    for (int kind = 0; kind < 6; kind++) {
      SneezeLights x = one(kind, 5, 0, justBelow[kind]);
      x.minutes(1);
      check.due("11 just below, kind " + kind, x.of(0, 5), 0);
      check.due("11 TICKLE just below, kind " + kind, x.of(0, 4), x.of(0, 7) - 1);
      x = one(kind, 5, 0, justBelow[kind] + 1);
      x.minutes(1);
      check.due("11 just so, kind " + kind, x.of(0, 5), 1);
      check.due("11 TICKLE is 0, kind " + kind, x.of(0, 4), 0);
    }
  }

  /** "BISHOP: as BARON, less 5 times as many LAMPS as burn (that is 30 at least)." */
  private static void bishopWithAllLamps() {
    for (int tickle = 28; tickle <= 29; tickle++) {
      SneezeLights x = one(4, 5, 0, tickle);
      for (int h = 0; h < 12; h++) {
        x.house(h, 0, 50);
      }
      check.due("7 30 at least", x.of(0, 7), 30);
      check.due("5 not ready yet", x.now(4), 0);
      x.minutes(1);
      check.due("11 from 30 on", x.of(0, 5), tickle - 28);
    }
  }

  private static void lampsThatGoOutDontCount() {
    for (int lamp = 1; lamp <= 2; lamp++) {
      SneezeLights x = one(4, 5, 0, 84);
      x.house(0, 0, lamp);
      check.due("7 HOLDS with a lamp", x.of(0, 7), 85);
      x.minutes(1);
      check.due("11 by what burns yet", x.of(0, 5), lamp - 1);
    }
  }

  /** "TICKLE is what it TICKLES more (99 at most)": 99 and as much again goes off as ever. */
  private static void tickleIs99AtMost() {
    for (int kind = 0; kind < 6; kind++) {
      SneezeLights x = one(kind, 5, 99, 99);
      x.dry(0);
      x.house(5, 0, 99);
      check.due("5 ready, kind " + kind, x.now(4), 1);
      check.due("15 in 1, kind " + kind, x.goes(0), 1);
      x.minutes(1);
      check.due("11 TICKLE is 0, kind " + kind, x.of(0, 4), 0);
      check.due("11 once, kind " + kind, x.of(0, 5), 1);
    }
  }

  /** "GONE OFF (how often: held to 9999)." */
  private static void goneOffIsHeld() {
    SneezeLights x = one(0, 5, 0, 0);
    x.set(0, 5, 9998);
    for (int i = 0; i < 3; i++) {
      x.set(0, 4, 30);
      check.due("15 it goes all the same", x.goes(0), 1);
      check.due("12 AHEAD", x.on(0, 1, 2), 9999);
      x.minutes(1);
      check.due("11 GONE OFF", x.of(0, 5), 9999);
      check.due("36 of all", x.count(3), 9999);
    }
  }

  /** "COLD is 6 more (99 at most)." */
  private static void coldIs99AtMost() {
    int[][] due = {{92, 98}, {93, 99}, {94, 99}, {98, 99}, {99, 99}};
    for (int[] d : due) {
      SneezeLights x = one(0, 5, 0, 30);
      add(x, 1, 5, d[0], 0);
      x.minutes(1);
      check.due("11 COLD of " + d[0], x.of(1, 3), d[1]);
    }
    // Two that go off in a minute give it twice; what one heals by comes off afterwards.
    SneezeLights x = one(0, 5, 0, 30);
    add(x, 0, 5, 0, 30);
    add(x, 1, 6, 86, 0);
    add(x, 1, 4, 88, 0);
    add(x, 0, 5, 98, 0);
    add(x, 3, 5, 98, 0);
    x.minutes(1);
    check.due("11 86 and twice 6", x.of(2, 3), 98);
    check.due("11 88 and twice 6", x.of(3, 3), 99);
    check.due("11 98 and twice 6, less 1", x.of(4, 3), 98);
    check.due("11 a DOCTOR is given none", x.of(5, 3), 89);
    check.due("11 one another", x.of(0, 3) * 100 + x.of(1, 3), 505);
  }

  /** "COLD is what it HEALS less (0 at least)." */
  private static void coldIs0AtLeast() {
    int[] heals = {1, 0, 2, 9, 3, 1};
    for (int kind = 0; kind < 6; kind++) {
      for (int cold = 0; cold <= heals[kind] + 1; cold++) {
        SneezeLights x = one(kind, 5, cold, 0);
        x.dry(9);
        x.minutes(1);
        check.due("11 COLD " + cold + " of kind " + kind, x.of(0, 3), Math.max(0, cold - heals[kind]));
      }
    }
  }

  /** "SNEEZER: c by 4, less DRY (0 at least)." */
  private static void ticklesAre0AtLeast() {
    int[][] due = {{0, 0, 0}, {3, 0, 0}, {4, 0, 1}, {36, 9, 0}, {39, 9, 0}, {40, 9, 1}, {35, 9, 0}, {0, 9, 0}, {99, 9, 15}, {99, 0, 24}};
    for (int[] d : due) {
      SneezeLights x = one(0, 5, d[0], 0);
      x.dry(d[1]);
      check.due("7 TICKLES of " + d[0] + " when " + d[1], x.of(0, 6), d[2]);
      x.turn(0, 1);
      check.due("7 half of that", x.of(0, 6), d[2] / 2);
      x.minutes(1);
      check.due("11 TICKLE", x.of(0, 4), d[2] / 2);
    }
  }

  private static int litFrom(int kind, int house, int faces) {
    SneezeLights x = one(kind, house, 99, 99);
    x.set(0, 2, faces);
    return x.minutes(1);
  }

  /** "Of the HOUSES before it (not its own; north: greater numbers)": 11 is the last, and 0 isn't behind it. */
  private static void theStreetEndsAt11() {
    check.due("11 from 11", litFrom(4, 11, 1), 0);
    check.due("11 from 10", litFrom(4, 10, 1), 2048);
    check.due("11 nine from 2", litFrom(4, 2, 1), 4095 - 7);
    check.due("11 nine from 1", litFrom(4, 1, 1), 4095 - 3 - 2048);
    check.due("11 nine from 3", litFrom(4, 3, 1), 4095 - 15);
    check.due("11 one from 11", litFrom(2, 11, 1), 0);
  }

  private static void theStreetEndsAt0() {
    check.due("11 from 0", litFrom(4, 0, 0), 0);
    check.due("11 from 1", litFrom(4, 1, 0), 1);
    check.due("11 nine from 9", litFrom(4, 9, 0), 511);
    check.due("11 nine from 10", litFrom(4, 10, 0), 1022);
    check.due("11 nine from 8", litFrom(4, 8, 0), 255);
    check.due("11 one from 0", litFrom(2, 0, 0), 0);
  }

  /** "All others AT its HOUSE or one beside it": not two away, nor from one end of the street to the other. */
  private static void besideIsOneHouse() {
    for (int house = 0; house < 12; house++) {
      for (int other = 0; other < 12; other++) {
        SneezeLights x = one(0, house, 0, 30);
        add(x, 1, other, 50, 0);
        x.minutes(1);
        boolean beside = other >= house - 1 && other <= house + 1;
        check.due("11 COLD at " + other + " from " + house, x.of(1, 3), beside ? 56 : 50);
      }
    }
  }

  /** "Each with a BOOK open." */
  private static void shutIsNotLit() {
    SneezeLights x = one(1, 5, 20, 99);
    x.house(6, 1, 0);
    x.house(7, 1, 0);
    x.house(7, 0, 3);
    check.due("11 two are shut, and those are all", x.minutes(1), 128);
    check.due("11 LAMP 7 burns on as it did", x.houseOf(7, 0), 2);
    for (int h = 0; h < 12; h++) {
      x.house(h, 1, 0);
      x.house(h, 0, 0);
    }
    x.set(0, 4, 99);
    check.due("11 all are shut", x.minutes(1), 0);
    check.due("11 and it went off", x.of(0, 5), 2);
  }

  /** "STATE: MINUTE would be above 99999." More calls than the 512 that are promised: there is no other way so far. */
  private static void minuteIs99999AtMost() {
    SneezeLights x = new SneezeLights();
    x.minutes(99);
    for (int i = 0; i < 998; i++) {
      x.minutes(100);
    }
    check.due("11 at 99899", x.now(0), 99899);
    x.image();
    check.due("11 a hundred more are 99999", x.minutes(100), 0);
    check.due("11 MINUTE", x.now(0), 99999);
    check.due("11 one more", x.minutes(1), Check.STATE);
    check.due("11 a hundred more", x.minutes(100), Check.STATE);
    check.due("11 BEYOND before STATE", x.minutes(0), Check.BEYOND);
    check.due("11 BEYOND before STATE, above", x.minutes(101), Check.BEYOND);
    check.due("37 STATE is counted", x.status(4), 2);
    x.undo();
    check.due("11 one more of 99899", x.minutes(1), 0);
    check.due("11 a hundred of 99900", x.minutes(100), Check.STATE);
    check.due("11 none of them went", x.now(0), 99900);
    check.due("11 99 of them", x.minutes(99), 0);
    x.house(0, 0, 9);
    check.due("14 AHEAD goes on", x.lit(0, 0), 9);
  }

  /** "n MINUTES (0 to 200) AHEAD": none at all is what is now. */
  private static void aheadOfNone() {
    SneezeLights x = one(0, 5, 99, 99);
    x.set(0, 5, 77);
    x.house(3, 0, 1);
    x.house(3, 2, 55);
    check.due("12 COLD", x.on(0, 0, 0), 99);
    check.due("12 TICKLE", x.on(0, 0, 1), 99);
    check.due("12 GONE OFF", x.on(0, 0, 2), 77);
    check.due("13 LAMP", x.then(3, 0, 0), 1);
    check.due("13 READ", x.then(3, 0, 1), 55);
  }

  /** A BISHOP that goes off in minutes 20, 110 and 200, with a BARON beside it that neither tickles nor heals. */
  private static SneezeLights bishopAndBaron(int tickle) {
    SneezeLights x = one(4, 5, 0, tickle);
    x.dry(9);
    add(x, 1, 6, 0, 0);
    return x;
  }

  private static void aheadOf200() {
    SneezeLights x = bishopAndBaron(70);
    check.due("12 GONE OFF in 199", x.on(0, 199, 2), 2);
    check.due("12 GONE OFF in 200", x.on(0, 200, 2), 3);
    check.due("12 TICKLE in 199", x.on(0, 199, 1), 89);
    check.due("12 TICKLE in 200", x.on(0, 200, 1), 0);
    check.due("12 COLD in 199", x.on(1, 199, 0), 12);
    check.due("12 COLD in 200", x.on(1, 200, 0), 18);
    check.due("13 LAMP in 199", x.then(6, 199, 0), 0);
    check.due("13 LAMP in 200", x.then(6, 200, 0), 5);
    x = bishopAndBaron(71);
    check.due("13 READ in 199", x.then(8, 199, 1), 10);
    check.due("13 READ in 200", x.then(8, 200, 1), 11);
  }

  private static SneezeLights told(String winter) {
    SneezeLights x = new SneezeLights();
    check.holds("it is a winter: " + winter, Check.winterOf(x, winter) > 0);
    return x;
  }

  /** "In how many MINUTES (0 to 200) the LAMP of a HOUSE burns first (v 1), or is out first (0)." */
  private static void litAtOnceAndLast() {
    SneezeLights x = one(0, 5, 0, 30);
    x.house(0, 0, 1);
    check.due("14 burns now", x.lit(0, 1), 0);
    check.due("14 is out in 1", x.lit(0, 0), 1);
    check.due("14 is out now", x.lit(6, 0), 0);
    check.due("14 burns in 1", x.lit(6, 1), 1);
    check.due("14 its own never", x.lit(5, 1), Check.NONE);
    x.house(0, 0, 99);
    check.due("14 is out in 99", x.lit(0, 0), 99);
    check.due("14 is out in 200", told("dry 7;lamp 5 9;child 8 tickle 94;sneezer 8 south cold 74").lit(5, 0), 200);
    x = told("dry 5;lamp 5 9;sneezer 8 south cold 79;child 7 south");
    check.due("14 is out in 201", x.lit(5, 0), Check.NONE);
    x.minutes(1);
    check.due("14 and in 200, a minute later", x.lit(5, 0), 200);
  }

  /** "In how many MINUTES (1 to 200) one has GONE OFF next." (In 200 and 201: MinutesTest.) */
  private static void goesAtOnceAndNever() {
    // It has what it HOLDS now, but the LAMP is out when that is asked: then it HOLDS 90, and TICKLES 1 a MINUTE.
    SneezeLights bishop = one(4, 5, 0, 85);
    bishop.house(0, 0, 1);
    check.due("5 it has what it HOLDS", bishop.now(4), 1);
    check.due("15 but not when that is asked", bishop.goes(0), 5);
    check.due("15 in 1", one(0, 5, 0, 30).goes(0), 1);
    check.due("15 in 1 by what it tickles", one(0, 5, 12, 29).goes(0), 1);
    check.due("15 never", one(0, 5, 0, 29).goes(0), Check.NONE);
    check.due("15 in 90", one(4, 5, 0, 0).goes(0), 90);
    SneezeLights x = one(0, 5, 0, 30);
    x.set(0, 5, 1);
    check.due("15 next, not ever", x.goes(0), 1);
    x.minutes(1);
    check.due("15 once, and no more", x.goes(0), Check.NONE);
  }

  /** "In how many MINUTES (0 to 200) nobody has a COLD first." (In 200 and 201: MinutesTest.) */
  private static void wellAtOnceAndNever() {
    check.due("16 nobody is there", new SneezeLights().well(), 0);
    check.due("16 nobody has one", one(1, 5, 0, 99).well(), 0);
    check.due("16 in 1", one(0, 5, 1, 0).well(), 1);
    check.due("16 in 11", one(3, 5, 99, 0).well(), 11);
    check.due("16 a BARON never", one(1, 5, 1, 0).well(), Check.NONE);
    SneezeLights x = one(0, 5, 0, 0);
    add(x, 0, 9, 2, 0);
    check.due("16 not one alone, but all", x.well(), 2);
    x = one(0, 5, 0, 30);
    add(x, 1, 5, 0, 0);
    check.due("16 now, though it is given soon", x.well(), 0);
  }
}
