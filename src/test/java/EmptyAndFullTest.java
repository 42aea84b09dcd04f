/** Promises 1 to 37: each call on an object just made and on a full one, and images from the one to the other. */
public final class EmptyAndFullTest {
  private static final Check check = new Check();

  public static void main(String[] args) {
    eachCallOnAnEmptyStreet();
    eachCallOnAFullStreet();
    aMinuteOfTheFullStreet();
    theEighthAndTheNinth();
    allAtOneHouse();
    asNowTellsThem();
    turnAtTheEnds();
    imagesOfEmptyAndFull();
    whatAnImageLeaves();
    statusCountsEach();
    statusOverAll();
    lastOf512Calls();
    check.end();
  }

  private static void due(Sample sample, String call, long want) {
    check.due(call + " (" + sample + ")", Calls.call(sample.made(), call), want);
  }

  private static void eachCallOnAnEmptyStreet() {
    String[] calls = {
      "house 0 0 5:0", "house 11 1 0:1", "house 5 2 5:0", "houseOf 0 0:0", "houseOf 11 1:1", "houseOf 0 2:0", "houseOf 11 3:0",
      "dry 9:2", "now 0:0", "now 1:2", "now 2:0", "now 3:4095", "now 4:0", "now 5:0", "now 6:0", "sneezer 5 11:0",
      "minutes 1:0", "minutes 100:0", "then 11 200 0:0", "then 0 200 1:0", "lit 0 0:0", "well:0", "driest 60 0:9",
      "open 60:0", "feed 97 1:1", "feed 97 4:4", "wipe:0", "winter:-1", "sheet 3 8 0:0", "sheet 0 64 40:40", "sheet 0 0 40:0",
      "image:1", "tear:0", "count 0:0", "count 1:0", "count 2:0", "count 3:0", "status -1:0", "status 0:0", "status 6:0",
    };
    for (String call : calls) {
      String[] two = call.split(":");
      due(Sample.EMPTY, two[0], Long.parseLong(two[1]));
    }
  }

  private static void eachCallOnAFullStreet() {
    String[] calls = {
      "house 0 0 0:99", "house 11 1 0:1", "house 5 2 0:9999", "houseOf 11 0:99", "houseOf 11 2:9999", "houseOf 11 3:1",
      "houseOf 4 3:128", "houseOf 3 3:0", "dry 0:9", "now 0:3", "now 1:9", "now 2:4095", "now 3:4095", "now 4:255", "now 5:792",
      "now 6:119988", "of 7 0:1", "of 7 1:4", "of 7 3:99", "of 7 4:99", "of 7 5:9999", "of 4 7:30", "of 4 8:9", "of 4 9:3",
      "of 5 6:36", "set 7 3 0:99", "turn 7 0:1", "as 7 1:99", "as 4 1:99", "minutes 1:4095", "on 7 0 2:9999", "on 7 200 2:9999",
      "then 0 98 0:1", "then 0 200 1:9999", "lit 0 0:99", "lit 0 1:0", "goes 7:1", "goes 3:1", "driest 60 99999:9",
      "needs 7 0 60:0", "wipe:120", "winter:15", "lays 0:8", "book 3 7:40", "image:1", "undo:0", "tear:1", "count 0:8",
      "count 1:120", "count 2:12", "count 3:79992", "status -1:0",
    };
    for (String call : calls) {
      String[] two = call.split(":");
      due(Sample.FULL, two[0], Long.parseLong(two[1]));
    }
  }

  /** All eight go off; each gives the cold to those beside it, who have 99, and all but BARONS heal. */
  private static void aMinuteOfTheFullStreet() {
    SneezeLights x = Sample.FULL.made();
    check.due("11 all burn yet", x.minutes(1), 4095);
    int[] cold = {98, 99, 97, 90, 96, 98, 98, 99};
    for (int i = 0; i < 8; i++) {
      check.due("11 TICKLE " + i, x.of(i, 4), 0);
      check.due("11 GONE OFF " + i, x.of(i, 5), 9999);
      check.due("11 COLD " + i, x.of(i, 3), cold[i]);
    }
    for (int h = 0; h < 12; h++) {
      check.due("11 LAMP " + h, x.houseOf(h, 0), 98);
      check.due("11 READ " + h, x.houseOf(h, 2), 9999);
    }
    check.due("11 MINUTE", x.now(0), 4);
    check.due("11 nobody is ready", x.now(4), 0);
  }

  /** "SNEEZERS 0, 1, .. (at most 8)." "FULL." */
  private static void theEighthAndTheNinth() {
    SneezeLights x = new SneezeLights();
    for (int i = 0; i < 8; i++) {
      check.due("7 not there yet", x.of(i, 0), Check.BEYOND);
      check.due("6 the number", x.sneezer(i % 6, i), i);
      check.due("7 there now", x.of(i, 1), i);
    }
    for (int i = 0; i < 3; i++) {
      check.due("6 a 9th", x.sneezer(0, 0), Check.FULL);
    }
    check.due("36 eight", x.count(0), 8);
    check.due("7 no 9th", x.of(8, 0), Check.BEYOND);
    check.due("37 FULL", x.status(1), 3);
  }

  private static void allAtOneHouse() {
    for (int h = 0; h < 12; h += 11) {
      SneezeLights x = new SneezeLights();
      for (int i = 0; i < 8; i++) {
        x.sneezer(i % 6, h);
      }
      check.due("3 all", x.houseOf(h, 3), 255);
      check.due("3 nobody", x.houseOf(11 - h, 3), 0);
      x.set(7, 1, 11 - h);
      check.due("3 all but one", x.houseOf(h, 3), 127);
      check.due("3 that one", x.houseOf(11 - h, 3), 128);
    }
  }

  /** Sets by bits, of the first and the last. */
  private static void asNowTellsThem() {
    SneezeLights x = new SneezeLights();
    x.house(0, 0, 1);
    check.due("5 LAMP 0", x.now(2), 1);
    x.house(11, 0, 99);
    check.due("5 LAMP 11", x.now(2), 2049);
    x.house(0, 0, 0);
    check.due("5 LAMP 0 is out", x.now(2), 2048);
    x.house(0, 1, 0);
    check.due("5 BOOK 0", x.now(3), 4094);
    x.house(11, 1, 0);
    check.due("5 BOOK 11", x.now(3), 2046);
    for (int i = 0; i < 8; i++) {
      x.sneezer(0, i);
      x.set(i, 4, i == 0 || i == 7 ? 30 : 29);
    }
    check.due("5 ready are 0 and 7", x.now(4), 129);
    x.set(0, 4, 29);
    x.set(7, 4, 99);
    check.due("5 ready is 7", x.now(4), 128);
  }

  /** "One becomes one of another KIND": with all that it has, what it HOLDS and so on are those of the new KIND. */
  private static void turnAtTheEnds() {
    SneezeLights x = Sample.FULL.made();
    int was = x.of(7, 0);
    int[] holds = {30, 90, 20, 99, 30, 20};
    int[] blows = {4, 8, 1, 0, 9, 2};
    for (int kind = 5; kind >= 0; kind--) {
      check.due("9 what it was", x.turn(7, kind), was);
      check.due("9 HOLDS", x.of(7, 7), holds[kind]);
      check.due("9 BLOWS", x.of(7, 8), blows[kind]);
      check.due("9 COLD stays", x.of(7, 3), 99);
      check.due("9 TICKLE stays", x.of(7, 4), 99);
      check.due("9 GONE OFF stays", x.of(7, 5), 9999);
      was = kind;
    }
  }

  /** "All that section 1 tells (THE TAPE not) is kept." "It becomes what was kept latest (which stays)." */
  private static void imagesOfEmptyAndFull() {
    SneezeLights x = Sample.FULL.made();
    check.due("34 to the empty one", x.undo(), 0);
    check.holds("34 as just made", Check.stateOf(x).equals(Check.stateOf(new SneezeLights())));
    check.due("6 the first comes anew", x.sneezer(2, 4), 0);
    check.due("7 COLD at first", x.of(0, 3), 20);
    check.due("7 TICKLE at first", x.of(0, 4), 0);
    check.due("7 GONE OFF at first", x.of(0, 5), 0);
    check.due("34 it stays", x.undo(), 0);
    check.due("35 torn", x.tear(), 1);
    check.due("34 nothing", x.undo(), Check.NONE);
    SneezeLights y = Sample.FULL.made();
    y.image();
    y.minutes(100);
    check.due("34 to the full one", y.undo(), 8);
    check.holds("34 as it was", Check.stateOf(y).equals(Check.stateOf(Sample.FULL.made())));
    check.due("6 a 9th", y.sneezer(0, 0), Check.FULL);
  }

  /** THE TAPE, the sheets and status() are none of it. */
  private static void whatAnImageLeaves() {
    SneezeLights x = Sample.FULL.made();
    x.dry(-1);
    x.undo();
    check.due("34 THE TAPE", x.count(1), 120);
    check.due("34 a sheet's first", x.write(0, 0, 0), 10);
    check.due("34 a sheet's last", x.write(3, 39, 0), -4);
    check.due("37 undo() takes none back", x.status(0), 1);
    check.due("26 THE TAPE is read", x.winter(), 15);
    x.undo();
    check.due("34 it doesn't come back", x.count(1), 0);
    check.due("34 BOOKS do", x.now(3), 4095);
  }

  /** "How many acts answered a finding ever: which -1: all, 0 to 6: BEYOND to SIZE." */
  private static void statusCountsEach() {
    // Each but STATE, which no run of 512 calls can come to (MinuteEdgesTest).
    String[] calls = {"dry 10", "feed 0 1", "as 0 1", "well", "", "lays 0", "sheet 0 8 -1"};
    for (int which = 0; which < 7; which++) {
      if (which == 4) {
        continue;
      }
      SneezeLights x = Sample.FULL.made();
      x.sheet(0, 0, 0);
      for (int times = 1; times <= 3; times++) {
        check.due("37 the finding", Calls.call(x, calls[which]), -1000000001 - which);
        for (int other = 0; other < 7; other++) {
          check.due("37 which " + other, x.status(other), other == which ? times : 0);
        }
        check.due("37 all", x.status(-1), times);
      }
    }
  }

  /** "BEYOND (counted from then on): another one." */
  private static void statusOverAll() {
    SneezeLights x = new SneezeLights();
    int told = 0;
    for (int which : new int[] {-2, 7, Integer.MIN_VALUE, Integer.MAX_VALUE}) {
      check.due("37 another one", x.status(which), Check.BEYOND);
      told++;
      check.due("37 counted from then on", x.status(0), told);
      check.due("37 in all", x.status(-1), told);
    }
    x.undo();
    check.due("37 two kinds in all", x.status(-1), told + 1);
    check.due("37 of the one", x.status(3), 1);
    x.image();
    x.undo();
    x.tear();
    x.winter();
    check.due("37 none is taken back", x.status(-1), told + 1);
  }

  /** "An object is used for at most 512 calls": the last of them answers as the first does. */
  private static void lastOf512Calls() {
    SneezeLights x = new SneezeLights();
    for (int i = 0; i < 510; i++) {
      check.due("4 BEYOND", x.dry(10), Check.BEYOND);
    }
    check.due("37 510 of them", x.status(0), 510);
    check.due("37 in all", x.status(-1), 510);
    SneezeLights y = new SneezeLights();
    for (int i = 0; i < 511; i++) {
      y.minutes(100);
    }
    check.due("5 MINUTE", y.now(0), 51100);
  }
}
