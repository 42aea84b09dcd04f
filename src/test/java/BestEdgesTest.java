import java.util.function.ToIntFunction;

/** Promises 17 to 23: the first and the last n, all alike (of several the least), the ends of what is tried. */
public final class BestEdgesTest {
  private static final Check check = new Check();

  public static void main(String[] args) {
    nothingCanBeReadInOne();
    nothingMoreCanBeRead();
    allAlike();
    the60thMinute();
    driestEnds();
    needsEnds();
    eachIsTried();
    whatItIsAlready();
    aDoctor();
    theFirstHasNoCold();
    check.end();
  }

  private static SneezeLights told(String winter) {
    SneezeLights x = new SneezeLights();
    check.holds("it is a winter: " + winter, Check.winterOf(x, winter) > 0);
    return x;
  }

  /** In 1 MINUTE only what burns now is read, whoever goes off: of several the least. */
  private static void nothingCanBeReadInOne() {
    SneezeLights x = told("doctor 3;baron 5 cold 99 tickle 99;bishop 7 south cold 50 tickle 80;lamp 4 3;shut 6");
    check.due("17 feather(1)", x.feather(1), 0);
    check.due("18 seat(1, 1)", x.seat(1, 1), 0);
    check.due("19 kind(1, 1)", x.kind(1, 1), 0);
    check.due("20 driest(1, 1)", x.driest(1, 1), 9);
    check.due("20 driest(1, 2)", x.driest(1, 2), Check.NONE);
    check.due("22 dear(1)", x.dear(1), 0);
    check.due("23 open(1)", x.open(1), 0);
  }

  /** READ is held to 9999 in all HOUSES: all alike, of several the least. */
  private static void nothingMoreCanBeRead() {
    for (int n = 1; n <= 60; n += 59) {
      check.due("17 feather", Sample.FULL.made().feather(n), 0);
      check.due("18 seat", Sample.FULL.made().seat(7, n), 0);
      check.due("19 kind", Sample.FULL.made().kind(7, n), 0);
      check.due("20 driest", Sample.FULL.made().driest(n, 99999), 9);
      check.due("22 dear", Sample.FULL.made().dear(n), 0);
      check.due("23 open", Sample.FULL.made().open(n), 0);
    }
  }

  private static void allAlike() {
    SneezeLights x = told("doctor 3;sneezer 5 cold 0;sneezer 5 cold 0;sneezer 5 cold 0");
    check.due("17 of three the least", x.feather(60), 1);
    check.due("18 a doctor lights from nowhere", x.seat(0, 60), 0);
    check.due("19 of those who tickle the one that lights most", x.kind(1, 60) > 0 ? 1 : 0, 1);
    check.due("22 nobody lights", x.dear(60), 0);
    check.due("23 nobody reads", x.open(60), 0);
    check.due("23 nobody is there", new SneezeLights().open(60), 0);
  }

  private static void flips(String what, String winter, ToIntFunction<SneezeLights> in59, ToIntFunction<SneezeLights> in60, int... due) {
    check.due(what + " in 59", in59.applyAsInt(told(winter)), due[0]);
    check.due(what + " in 60", in60.applyAsInt(told(winter)), due[1]);
  }

  /** "n MINUTES (1 to 60) AHEAD": streets in which the 60th minute makes another the best. */
  private static void the60thMinute() {
    flips("17", "dry 5;bishop 9 cold 46;sneezer 1 south;baron 5", x -> x.feather(59), x -> x.feather(60), 0, 2);
    flips("17", "dry 7;baron 9 south tickle 39;child 9 tickle 31;child 4 south cold 81", x -> x.feather(59), x -> x.feather(60), 2, 0);
    flips("18", "dry 1;bishop 0 cold 13;baron 5 south tickle 63", x -> x.seat(0, 59), x -> x.seat(0, 60), 1, 8);
    flips("18", "dry 1;child 8 south cold 49 tickle 34;baron 11;doctor 4", x -> x.seat(0, 59), x -> x.seat(0, 60), 1, 20);
    flips("19", "dry 3;bishop 7;baron 11 cold 23 tickle 97", x -> x.kind(0, 59), x -> x.kind(0, 60), 5, 2);
    flips("19", "dry 1;child 4 tickle 58;sneezer 8 cold 97", x -> x.kind(0, 59), x -> x.kind(0, 60), 5, 4);
    flips("22", "dry 3;babe 1 south;bishop 5 south cold 28 tickle 57;bishop 9", x -> x.dear(59), x -> x.dear(60), 0, 1);
    flips("22", "dry 3;babe 4;baron 7;babe 2 tickle 96", x -> x.dear(59), x -> x.dear(60), 0, 2);
    flips("23", "dry 1;bishop 4 tickle 77;baron 0 south;bishop 3 tickle 30;shut 0", x -> x.open(59), x -> x.open(60), 9, 0);
    flips("23", "dry 8;sneezer 9 south;bishop 6 tickle 31;doctor 9 south tickle 8;shut 7", x -> x.open(59), x -> x.open(60), 0, 7);
  }

  /** "The greatest DRY (0 to 9) with which READ of all is v (0 to 99999) or more n MINUTES (1 to 60) AHEAD." */
  private static void driestEnds() {
    SneezeLights x = told("lamp 0 99");
    check.due("20 60 are read in 60", x.driest(60, 60), 9);
    check.due("20 61 are not", x.driest(60, 61), Check.NONE);
    check.due("20 nor 60 in 59", x.driest(59, 60), Check.NONE);
    check.due("20 1 is read in 1", x.driest(1, 1), 9);
    check.due("20 2 are not", x.driest(1, 2), Check.NONE);
    check.due("20 0 are always", x.driest(1, 0), 9);
    for (int h = 0; h < 12; h++) {
      x.house(h, 2, h < 10 ? 9999 : 0);
      x.house(h, 0, h < 10 ? 0 : 99);
    }
    x.house(11, 0, 0);
    // 99990 are read; the lamp of 10 makes it 99999 in 9.
    check.due("20 99999 in 9", x.driest(9, 99999), 9);
    check.due("20 99999 in 8", x.driest(8, 99999), Check.NONE);
    for (int dry = 0; dry <= 9; dry++) {
      // By a COLD of 4 * (dry + 1) it TICKLES 1 at that DRY, and none at one more.
      for (int is = 0; is <= 9; is++) {
        SneezeLights y = told("dry " + is + ";sneezer 5 cold " + (4 * dry + 4) + " tickle 29");
        check.due("20 as dry as " + dry + ", from " + is, y.driest(2, 1), dry);
      }
    }
    check.due("20 not even 0", told("dry 9;sneezer 5 cold 3 tickle 29").driest(2, 1), Check.NONE);
  }

  /** "The least COLD (0 to 99) of one now with which the LAMP of a HOUSE burns n MINUTES (0 to 60) AHEAD." */
  private static void needsEnds() {
    SneezeLights x = told("doctor 3;lamp 0 61;lamp 1 60;lamp 2 1");
    check.due("21 burns in 60", x.needs(0, 0, 60), 0);
    check.due("21 is out in 60", x.needs(0, 1, 60), Check.NONE);
    check.due("21 burns in 59", x.needs(0, 1, 59), 0);
    check.due("21 burns now", x.needs(0, 2, 0), 0);
    check.due("21 is out in 1", x.needs(0, 2, 1), Check.NONE);
    check.due("21 is out now", x.needs(0, 3, 0), Check.NONE);
    // It has 30 anyhow: 0 is enough for the one before it; 25, 50, 75 for those behind.
    x = told("sneezer 3 cold 99 tickle 30");
    int[] due = {0, 25, 50, 75, Check.NONE};
    for (int k = 0; k < 5; k++) {
      check.due("21 for the HOUSE " + (4 + k), x.needs(0, 4 + k, 1), due[k]);
    }
    check.due("21 COLD is as it was", x.of(0, 3), 99);
  }

  /** The first and the last that can be answered. */
  private static void eachIsTried() {
    SneezeLights x = told("baron 0 cold 99;doctor 1;doctor 1;doctor 1;doctor 1;doctor 1;doctor 1;doctor 1");
    check.due("17 the first", x.feather(3), 0);
    x.turn(0, 3);
    x.turn(7, 1);
    check.due("17 the 8th", x.feather(3), 7);
    x.set(7, 4, 99);
    check.due("22 the 8th", x.dear(9), 7);
    for (int h = 1; h < 12; h++) {
      x.house(h, 1, 0);
    }
    check.due("18 only 0 is open: from 1, facing south", x.seat(7, 9), 2);
    x.house(0, 1, 0);
    x.house(11, 1, 1);
    x.set(7, 3, 0);
    check.due("18 only 11 is open: from 9, facing north", x.seat(7, 9), 19);
    x.house(11, 1, 0);
    x.house(10, 1, 1);
    x.turn(7, 2);
    x.set(7, 4, 20);
    check.due("18 only 10 is open to a CHILD: from 9, facing north", x.seat(7, 2), 19);
    x.house(9, 1, 0);
    x.house(10, 1, 0);
    x.set(7, 1, 10);
    check.due("23 the last HOUSE", x.open(2), 11);
    x.set(7, 1, 1);
    x.set(7, 2, 0);
    check.due("23 the first HOUSE", x.open(2), 0);
    seatsOfAChild();
  }

  private static int readAhead(SneezeLights x, int n) {
    int all = 0;
    for (int h = 0; h < 12; h++) {
      all += x.then(h, n, 1);
    }
    return all;
  }

  /** Streets in which one is best as it is: that is tried, too. */
  private static void whatItIsAlready() {
    String[] winters = {"sneezer 6 cold 95", "baron 3 cold 89", "child 3", "", "bishop 5;babe 5", "babe 4"};
    int[] minutes = {12, 17, 5, 0, 26, 11};
    for (int kind = 0; kind < 6; kind++) {
      if (kind != 3) {
        check.due("19 as it is: " + winters[kind], told(winters[kind]).kind(0, minutes[kind]), kind);
      }
    }
    for (int kind = 1; kind < 6; kind++) {
      SneezeLights x = told("sneezer 6 cold 95");
      int as = readAhead(x, 12);
      x.turn(0, kind);
      check.holds("19 a SNEEZER lets more be READ than " + kind, readAhead(x, 12) < as);
    }
    SneezeLights x = told("sneezer 4 cold 60 tickle 30");
    for (int h = 0; h < 12; h++) {
      x.house(h, 1, h >= 5 && h <= 7 ? 1 : 0);
    }
    check.due("18 as it is", x.seat(0, 3), 9);
    x.set(0, 1, 8);
    x.set(0, 2, 0);
    check.due("18 the lesser of the two", x.seat(0, 3), 9);
  }

  /** A DOCTOR lights nothing; but it goes off at TICKLE 99, and gives the cold. */
  private static void aDoctor() {
    SneezeLights x = told("sneezer 3 tickle 99;doctor 3");
    int without = readAhead(x, 60);
    x.set(1, 4, 99);
    check.holds("17 more is READ by its cold", readAhead(x, 60) > without);
    x.set(1, 4, 0);
    check.due("17 a feather for the DOCTOR", x.feather(60), 1);
    check.due("17 too early for it", x.feather(2), 0);
    // It gives its cold once only, in time for what the others light.
    x = told("doctor 11 tickle 98;child 9;child 11 south tickle 80");
    int[] read = new int[6];
    for (int kind = 0; kind < 6; kind++) {
      x.turn(0, kind);
      read[kind] = readAhead(x, 33);
    }
    for (int kind = 0; kind < 6; kind++) {
      check.holds("19 a DOCTOR lets more be READ than " + kind, kind < 3 ? read[kind] < read[3] : read[kind] <= read[3]);
      x.turn(0, kind);
      check.due("19 best as a DOCTOR, from " + kind, x.kind(0, 33), 3);
    }
    x = told("sneezer 9;doctor 3 cold 99;babe 8 cold 60;sneezer 5 cold 0");
    check.due("22 a DOCTOR's cold is not dear", x.dear(60), dearest(x, 60));
  }

  private static int dearest(SneezeLights x, int n) {
    int dearest = 0;
    int least = Integer.MAX_VALUE;
    for (int i = 0; i < x.count(0); i++) {
      int was = x.set(i, 3, 0);
      int read = readAhead(x, n);
      x.set(i, 3, was);
      if (read < least) {
        least = read;
        dearest = i;
      }
    }
    return dearest;
  }

  /** Whose COLD is 0 already is asked for as well as the others. */
  private static void theFirstHasNoCold() {
    SneezeLights x = told("sneezer 2 cold 0;sneezer 5 cold 60;doctor 8");
    check.due("22 no COLD is dear in 2", x.dear(2), 0);
    check.due("22 the second's in 60", x.dear(60), 1);
    x = told("sneezer 11;sneezer 2 cold 0;sneezer 0 south");
    check.due("22 they light nothing", x.dear(60), 0);
  }

  /** With one BOOK open a CHILD has two seats for it, one at each end of the street: the lesser is told. */
  private static void seatsOfAChild() {
    for (int h = 0; h < 12; h++) {
      SneezeLights x = told("child 5 cold 0 tickle 17");
      for (int k = 0; k < 12; k++) {
        x.house(k, 1, k == h ? 1 : 0);
      }
      check.due("18 to light " + h, x.seat(0, 2), h == 0 ? 2 : 2 * (h - 1) + 1);
    }
  }
}
