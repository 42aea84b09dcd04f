/** Promises 17 to 23: feather, seat, kind, driest, needs, dear, open. */
public final class BestTest {
  private static final Check check = new Check();
  private static final String WINTER =
      "baron 2 cold 60 tickle 50;child 4 south;babe 5 cold 70;sneezer 8 cold 44;doctor 7;bishop 6 cold 30;shut 9;lamp 3 4";

  public static void main(String[] args) {
    feather();
    seat();
    kind();
    driest();
    needs();
    dear();
    open();
    theEnds();
    withEight();
    againstTryingEach();
    check.end();
  }

  private static void feather() {
    SneezeLights x = new SneezeLights();
    check.due("17 nobody", x.feather(1), Check.NONE);
    check.due("17 nobody, 0", x.feather(0), Check.BEYOND);
    check.due("17 nobody, 61", x.feather(61), Check.BEYOND);
    x.sneezer(0, 3);
    x.sneezer(1, 3);
    x.sneezer(1, 3);
    check.due("17 none is read of yet", x.feather(1), 0);
    check.due("17 a baron lights two", x.feather(2), 1);
    check.due("17 n 60", x.feather(60) >= 0 ? 1 : 0, 1);
    check.due("17 n -1", x.feather(-1), Check.BEYOND);
    check.due("17 nothing changes", x.of(1, 4), 0);
  }

  private static void seat() {
    SneezeLights x = new SneezeLights();
    x.sneezer(1, 11);
    x.set(0, 4, 90);
    check.due("18 at 2, facing south, two are lit", x.seat(0, 2), 1);
    x.house(1, 1, 0);
    // 1 is shut: from 1 north 2 and 3 are lit, from 0 north only 2.
    check.due("18 with 1 shut", x.seat(0, 2), 3);
    x.house(1, 1, 1);
    for (int h = 0; h < 11; h++) {
      x.house(h, 1, 0);
    }
    check.due("18 only 11 is open", x.seat(0, 2), 2 * 9 + 1);
    check.due("18 n 1: all alike", x.seat(0, 1), 0);
    check.due("18 no such one", x.seat(1, 1), Check.BEYOND);
    check.due("18 -1", x.seat(-1, 1), Check.BEYOND);
    check.due("18 n 0", x.seat(0, 0), Check.BEYOND);
    check.due("18 n 61", x.seat(0, 61), Check.BEYOND);
    check.due("18 nothing changes", x.of(0, 1), 11);
  }

  private static void kind() {
    SneezeLights x = new SneezeLights();
    x.sneezer(3, 2);
    x.set(0, 4, 20);
    check.due("19 a child goes at 20", x.kind(0, 2), 2);
    x.set(0, 4, 90);
    check.due("19 a bishop lights three", x.kind(0, 2), 4);
    check.due("19 all alike", x.kind(0, 1), 0);
    check.due("19 no such one", x.kind(1, 1), Check.BEYOND);
    check.due("19 -1", x.kind(-1, 1), Check.BEYOND);
    check.due("19 n 0", x.kind(0, 0), Check.BEYOND);
    check.due("19 n 61", x.kind(0, 61), Check.BEYOND);
    check.due("19 nothing changes", x.of(0, 0), 3);
  }

  private static void driest() {
    SneezeLights x = new SneezeLights();
    check.due("20 none wanted", x.driest(1, 0), 9);
    check.due("20 one wanted", x.driest(1, 1), Check.NONE);
    check.due("20 n 0", x.driest(0, 0), Check.BEYOND);
    check.due("20 n 61", x.driest(61, 0), Check.BEYOND);
    check.due("20 v -1", x.driest(1, -1), Check.BEYOND);
    check.due("20 v 100000", x.driest(1, 100000), Check.BEYOND);
    check.due("20 v 99999", x.driest(60, 99999), Check.NONE);
    x.sneezer(0, 0);
    x.set(0, 4, 27);
    // 20 by 4 less 2 is 3: it goes off in the first minute, and 1 is lit in the second.
    check.due("20 as dry as 2", x.driest(2, 1), 2);
    x.house(11, 2, 5);
    check.due("20 what is read already counts", x.driest(2, 5), 9);
    check.due("20 and one more", x.driest(2, 6), 2);
    check.due("20 DRY stays", x.now(1), 2);
    x.set(0, 3, 3);
    x.set(0, 4, 29);
    check.due("20 0 is the least", x.driest(2, 6), Check.NONE);
    for (int h = 0; h < 12; h++) {
      x.house(h, 2, 9999);
    }
    check.due("20 all is read", x.driest(1, 99999), 9);
  }

  private static void needs() {
    SneezeLights x = new SneezeLights();
    x.sneezer(0, 2);
    x.set(0, 4, 25);
    // It takes 5 in the one minute, so a COLD of 28; to light 4 the BLOW of 25 is enough then.
    check.due("21 to light 3", x.needs(0, 3, 1), 28);
    check.due("21 to light 4", x.needs(0, 4, 1), 28);
    check.due("21 to light 5", x.needs(0, 5, 1), 50);
    check.due("21 to light 6", x.needs(0, 6, 1), 75);
    check.due("21 to light 7", x.needs(0, 7, 1), Check.NONE);
    check.due("21 now", x.needs(0, 3, 0), Check.NONE);
    x.house(3, 0, 1);
    check.due("21 it burns now", x.needs(0, 3, 0), 0);
    check.due("21 no such one", x.needs(1, 0, 0), Check.BEYOND);
    check.due("21 -1", x.needs(-1, 0, 0), Check.BEYOND);
    check.due("21 house 12", x.needs(0, 12, 0), Check.BEYOND);
    check.due("21 house -1", x.needs(0, -1, 0), Check.BEYOND);
    check.due("21 n -1", x.needs(0, 0, -1), Check.BEYOND);
    check.due("21 n 61", x.needs(0, 0, 61), Check.BEYOND);
    check.due("21 n 60", x.needs(0, 0, 60), Check.NONE);
    check.due("21 COLD stays", x.of(0, 3), 20);
    x.dry(9);
    x.set(0, 4, 15);
    check.due("21 99 is needed", x.needs(0, 3, 1), 96);
    x.set(0, 4, 14);
    check.due("21 99 is not enough", x.needs(0, 3, 1), Check.NONE);
  }

  private static void dear() {
    SneezeLights x = new SneezeLights();
    check.due("22 nobody", x.dear(1), Check.NONE);
    check.due("22 nobody, 0", x.dear(0), Check.BEYOND);
    check.due("22 nobody, 61", x.dear(61), Check.BEYOND);
    x.sneezer(3, 0);
    x.sneezer(0, 9);
    x.set(1, 4, 29);
    x.sneezer(1, 4);
    x.set(2, 4, 90);
    x.set(2, 3, 99);
    check.due("22 all alike", x.dear(1), 0);
    // The baron lights 7 with his cold and 2 without; the sneezer 1 and none.
    check.due("22 the baron", x.dear(2), 2);
    check.due("22 nothing changes", x.of(2, 3), 99);
  }

  private static void open() {
    SneezeLights x = new SneezeLights();
    check.due("23 all alike", x.open(1), 0);
    check.due("23 n 0", x.open(0), Check.BEYOND);
    check.due("23 n 61", x.open(61), Check.BEYOND);
    x.sneezer(0, 4);
    x.set(0, 4, 30);
    x.house(5, 1, 0);
    check.due("23 the shut one before it", x.open(2), 5);
    x.house(5, 1, 1);
    check.due("23 any but that one", x.open(2), 0);
    x.set(0, 1, 1);
    x.set(0, 2, 0);
    check.due("23 the first is needed", x.open(2), 1);
    check.due("23 nothing changes", x.now(3), 4095);
  }

  /** Where only the last number that is tried will do, and where a COLD of 1 would do otherwise than one of 0. */
  private static void theEnds() {
    SneezeLights x = new SneezeLights();
    Check.winterOf(x, "dry 2;sneezer 7 south cold 42 tickle 62;doctor 4 south cold 81 tickle 52;baron 6 cold 16 tickle 21");
    check.due("21 99 is enough, 98 is not", x.needs(0, 3, 59), 99);
    x = new SneezeLights();
    Check.winterOf(x, "dry 4;sneezer 7 cold 30 tickle 4;doctor 5 cold 36 tickle 69;baron 5 cold 65 tickle 72");
    check.due("20 0 is enough, 1 is not", x.driest(34, 165), 0);
    x = new SneezeLights();
    Check.winterOf(x, "dry 0;sneezer 5 south cold 50 tickle 36;sneezer 4 cold 48 tickle 17");
    check.due("22 COLD is 0, not 1", x.dear(11), 1);
  }

  private static void withEight() {
    SneezeLights x = new SneezeLights();
    for (int i = 0; i < 8; i++) {
      x.sneezer(i == 7 ? 1 : 3, 11 - i);
      x.set(i, 3, i == 7 ? 99 : 0);
    }
    check.due("17 of eight the last", x.feather(9), 7);
    x.set(7, 4, 90);
    check.due("22 of eight the last", x.dear(9), 7);
    x.turn(7, 5);
    check.due("18 a babe's seat", x.seat(7, 9) >= 0 ? 1 : 0, 1);
    check.due("3 the last of eight", x.houseOf(4, 3), 128);
    check.due("5 COLD of eight", x.now(5), 99);
    check.due("36 GONE OFF of eight", x.count(3), 0);
  }

  /** What is best, found by doing each on an object of its own. */
  private static void againstTryingEach() {
    for (int n = 1; n <= 60; n += 59) {
      SneezeLights x = start();
      int best = 0;
      int dearest = 0;
      for (int i = 0; i < 6; i++) {
        best = readWith(n, i, 4, 99) > readWith(n, best, 4, 99) ? i : best;
        dearest = readWith(n, i, 3, 0) < readWith(n, dearest, 3, 0) ? i : dearest;
      }
      check.due("17 feather(" + n + ")", x.feather(n), best);
      check.due("22 dear(" + n + ")", x.dear(n), dearest);
      check.due("18 seat(1, " + n + ")", x.seat(1, n), bestSeat(1, n));
      check.due("19 kind(0, " + n + ")", x.kind(0, n), bestKind(0, n));
      check.due("23 open(" + n + ")", x.open(n), bestBook(n));
      check.holds("17 to 23 change nothing", Check.stateOf(x).equals(Check.stateOf(start())));
    }
  }

  private static SneezeLights start() {
    SneezeLights x = new SneezeLights();
    check.due("the winter is told", Check.winterOf(x, WINTER), 8);
    return x;
  }

  private static int readAfter(SneezeLights x, int n) {
    x.minutes(n);
    return x.now(6);
  }

  private static int readWith(int n, int sneezer, int what, int v) {
    SneezeLights x = start();
    x.set(sneezer, what, v);
    return readAfter(x, n);
  }

  private static int bestSeat(int sneezer, int n) {
    int best = 0;
    int most = -1;
    for (int h = 0; h < 12; h++) {
      for (int f = 0; f < 2; f++) {
        SneezeLights x = start();
        x.set(sneezer, 1, h);
        x.set(sneezer, 2, f);
        int got = readAfter(x, n);
        if (got > most) {
          most = got;
          best = 2 * h + f;
        }
      }
    }
    return best;
  }

  private static int bestKind(int sneezer, int n) {
    int best = 0;
    int most = -1;
    for (int k = 0; k < 6; k++) {
      SneezeLights x = start();
      x.turn(sneezer, k);
      int got = readAfter(x, n);
      if (got > most) {
        most = got;
        best = k;
      }
    }
    return best;
  }

  private static int bestBook(int n) {
    int best = 0;
    int most = -1;
    for (int h = 0; h < 12; h++) {
      SneezeLights x = start();
      x.house(h, 1, 1 - x.houseOf(h, 1));
      int got = readAfter(x, n);
      if (got > most) {
        most = got;
        best = h;
      }
    }
    return best;
  }
}
