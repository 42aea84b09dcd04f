/** Promises 24 to 26: feed, wipe, winter. */
public final class TextTest {
  private static final Check check = new Check();

  public static void main(String[] args) {
    feed();
    wipe();
    items();
    sneezersOfTheText();
    faults();
    theNinth();
    faultChangesNothing();
    check.end();
  }

  private static void feed() {
    SneezeLights x = new SneezeLights();
    check.due("24 n 0", x.feed(1, 0), Check.BEYOND);
    check.due("24 n 5", x.feed(1, 5), Check.BEYOND);
    check.due("24 n -1", x.feed(1, -1), Check.BEYOND);
    check.due("24 n MIN", x.feed(1, Integer.MIN_VALUE), Check.BEYOND);
    check.due("24 n MAX", x.feed(1, Integer.MAX_VALUE), Check.BEYOND);
    check.due("24 'dr'", x.feed(0x7f006472, 2), 2);
    check.due("24 'y 7'", x.feed(0xff792037, 3), 5);
    check.due("24 bytes", x.count(1), 5);
    check.due("24 highest first", x.winter(), 1);
    check.due("24 DRY", x.now(1), 7);
    x.feed(-1, 4);
    check.due("24 bytes of 255 begin no TOKEN", x.winter(), -1);
    for (int i = 1; i <= 29; i++) {
      check.due("24 four more", x.feed(0x20202020, 4), 4 * i);
    }
    check.due("24 119", x.feed(0x202020, 3), 119);
    check.due("24 not two more", x.feed(0x2020, 2), Check.FULL);
    check.due("24 not four more", x.feed(0x2020, 4), Check.FULL);
    check.due("24 119 yet", x.count(1), 119);
    check.due("24 one more", x.feed(0x20, 1), 120);
    check.due("24 no more", x.feed(0x20, 1), Check.FULL);
    check.due("24 BEYOND before FULL", x.feed(0x20, 5), Check.BEYOND);
    check.due("24 FULL counted", x.status(1), 3);
    check.due("24 blanks alone end too early", x.winter(), -121);
  }

  private static void wipe() {
    SneezeLights x = new SneezeLights();
    check.due("25 none", x.wipe(), 0);
    Check.feedAll(x, "dry 9; lamp");
    check.due("25 eleven", x.wipe(), 11);
    check.due("25 it is empty", x.count(1), 0);
    check.due("25 nothing is left", Check.winterOf(x, "dry 3"), 1);
    check.due("25 empty after winter", x.wipe(), 0);
  }

  private static void items() {
    SneezeLights x = new SneezeLights();
    check.due("26 open and shut", Check.winterOf(x, "shut 0;shut 11;open 0"), 3);
    check.due("26 BOOKS", x.now(3), 4095 - 2048);
    check.due("26 BOOK 11", x.houseOf(11, 1), 0);
    check.due("26 BOOK 0", x.houseOf(0, 1), 1);
    check.due("26 dry", Check.winterOf(x, "dry 0"), 1);
    check.due("26 DRY", x.now(1), 0);
    check.due("26 dry 9", Check.winterOf(x, "  dry9  "), 1);
    check.due("26 DRY 9", x.now(1), 9);
    check.due("26 lamps", Check.winterOf(x, "lamp 11 99;lamp 0 1;lamp 5 50;lamp 5 0"), 4);
    check.due("26 LAMPS", x.now(2), 1 | 2048);
    check.due("26 LAMP 11", x.houseOf(11, 0), 99);
    check.due("26 it comes to what there is", x.now(3), 4095 - 2048);
    check.due("26 no blank needed", Check.winterOf(x, "lamp7 8;dry1;babe3south cold4tickle5"), 3);
    check.due("26 LAMP 7", x.houseOf(7, 0), 8);
    check.due("26 zeros ahead", Check.winterOf(x, "lamp 0000011 0000000000000042"), 1);
    check.due("26 LAMP 11 then", x.houseOf(11, 0), 42);
    check.due("26 READ stays", x.now(6), 0);
    check.due("26 MINUTE stays", x.now(0), 0);
    check.due("26 no findings", x.status(-1), 0);
  }

  private static void sneezersOfTheText() {
    SneezeLights x = new SneezeLights();
    check.due("26 one there already", x.sneezer(1, 1), 0);
    check.due("26 of all kinds", Check.winterOf(x,
        "sneezer 0;baron 1 south;child 2 cold 99;doctor 3 tickle 98;bishop 11 south cold 0 tickle 0;babe 5 cold 1 tickle 2"), 6);
    int[][] want = {
      {1, 1, 1, 20, 0, 0}, {0, 0, 1, 20, 0, 0}, {1, 1, 0, 20, 0, 0}, {2, 2, 1, 99, 0, 0},
      {3, 3, 1, 20, 98, 0}, {4, 11, 0, 0, 0, 0}, {5, 5, 1, 1, 2, 0},
    };
    check.due("26 seven", x.count(0), 7);
    for (int i = 0; i < 7; i++) {
      for (int what = 0; what < 6; what++) {
        check.due("26 of(" + i + ", " + what + ")", x.of(i, what), want[i][what]);
      }
    }
  }

  private static void fault(String text, int place) {
    SneezeLights x = new SneezeLights();
    check.due("26 '" + text + "'", Check.winterOf(x, text), -1 - place);
    check.due("26 no finding for '" + text + "'", x.status(-1), 0);
    check.due("26 empty after '" + text + "'", x.count(1), 0);
  }

  private static void faults() {
    fault("", 0);
    fault("   ", 3);
    fault(";", 0);
    fault(" ;dry 1", 1);
    fault("dry 1;", 6);
    fault("dry 1; ", 7);
    fault("dry 1;;dry 1", 6);
    fault("dry", 3);
    fault("dry  ", 5);
    fault("dry 10", 4);
    fault("dry 1 2", 6);
    fault("dry dry", 4);
    fault("dry;", 3);
    fault("dry 4294967297", 4);
    fault("dry 1 dry 1", 6);
    fault("12", 0);
    fault("wet 1", 0);
    fault("cry 1", 0);
    fault("dty 1", 0);
    fault("drx 1", 0);
    fault("damp 1 1", 0);
    fault("lamp", 4);
    fault("lamp ;", 5);
    fault("Dry 1", 0);
    fault("dry\t1", 3);
    fault("dry -1", 4);
    fault("dry 1.", 5);
    fault("dry 1\0", 5);
    fault("dry\0 1", 3);
    fault("\0", 0);
    fault("open 12", 5);
    fault("open", 4);
    fault("shut 1 1", 7);
    fault("shut cold", 5);
    fault("lamp 12 5", 5);
    fault("lamp 1 100", 7);
    fault("lamp 1", 6);
    fault("lamp 1;", 6);
    fault("lamp 1 1000", 7);
    fault("sneezer", 7);
    fault("sneezers 1", 0);
    fault("sneeze 1", 0);
    fault("sneezer south", 8);
    fault("baron 12", 6);
    fault("baron 1 north", 8);
    fault("baron 1 south south", 14);
    fault("baron 1 cold", 12);
    fault("baron 1 cold 100", 13);
    fault("baron 1 cold 5 south", 15);
    fault("baron 1 cold 5 cold 5", 15);
    fault("baron 1 tickle 5 cold 5", 17);
    fault("baron 1 tickle 100", 15);
    fault("baron 1 tickle", 14);
    fault("baron 1 tickle;", 14);
    fault("baron 1 5", 8);
    fault("babesouth 1", 0);
    fault("baron 1 southcold 3", 8);
    fault("dry 1;lamp 3 4;baron 1 \u00e9", 23);
  }

  private static void theNinth() {
    SneezeLights x = new SneezeLights();
    check.due("26 eight", Check.winterOf(x, "babe 1;babe 1;babe 1;babe 1;babe 1;babe 1;babe 1;babe 1"), 8);
    check.due("26 a 9th", Check.winterOf(x, "dry 4;  babe 99"), -1 - 8);
    check.due("26 no DRY either", x.now(1), 2);
    check.due("26 others may come", Check.winterOf(x, "dry 4"), 1);
    SneezeLights y = new SneezeLights();
    check.due("26 9 at once", Check.winterOf(y, "babe 1;babe 1;babe 1;babe 1;babe 1;babe 1;babe 1;babe 1;babe"), -1 - 56);
    check.due("26 none came", y.count(0), 0);
  }

  private static void faultChangesNothing() {
    SneezeLights x = new SneezeLights();
    x.sneezer(2, 3);
    String before = Check.stateOf(x);
    int place = Check.winterOf(x, "baron 1 south cold 9 tickle 8;shut 3;open 4;dry 9;lamp 4 44;lamp 4 444");
    check.due("26 the last number", place, -1 - 67);
    check.holds("26 a FAULT changes nothing", before.equals(Check.stateOf(x)));
    check.due("26 the next one is 1", x.sneezer(0, 0), 1);
    check.due("26 as ever", x.of(1, 3), 20);
  }
}
