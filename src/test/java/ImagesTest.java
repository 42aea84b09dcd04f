/** Promises 33 to 37: image, undo, tear, count, status. */
public final class ImagesTest {
  private static final Check check = new Check();

  public static void main(String[] args) {
    imageAndUndo();
    whatIsNotKept();
    latest();
    tear();
    count();
    status();
    statusOfEach();
    check.end();
  }

  private static void imageAndUndo() {
    SneezeLights x = new SneezeLights();
    check.due("34 nothing is kept", x.undo(), Check.NONE);
    Check.winterOf(x, "baron 2 south cold 60 tickle 80; babe 3; child 4; shut 5; dry 1; lamp 6 60");
    x.minutes(30);
    String before = Check.stateOf(x);
    check.due("33 image", x.image(), 1);
    check.holds("33 changes nothing", before.equals(Check.stateOf(x)));
    x.minutes(20);
    x.sneezer(4, 4);
    x.turn(0, 3);
    x.dry(8);
    x.house(0, 1, 0);
    x.house(5, 2, 77);
    x.set(1, 1, 11);
    x.set(1, 2, 0);
    x.set(1, 5, 500);
    check.holds("33 all is other", !before.equals(Check.stateOf(x)));
    check.due("34 undo", x.undo(), 3);
    check.holds("34 as it was", before.equals(Check.stateOf(x)));
    x.minutes(7);
    check.due("34 it stays", x.undo(), 3);
    check.holds("34 as it was, again", before.equals(Check.stateOf(x)));
    check.due("34 the next one", x.sneezer(0, 0), 3);
    check.due("34 is new", x.of(3, 0), 0);
  }

  private static void whatIsNotKept() {
    SneezeLights x = new SneezeLights();
    Check.feedAll(x, "dry 4");
    x.sheet(0, 8, 3);
    x.write(0, 0, 9);
    x.image();
    x.dry(-1);
    Check.feedAll(x, ";dry 5");
    x.write(0, 0, 44);
    x.sheet(1, 16, 2);
    check.due("34 nobody", x.undo(), 0);
    check.due("34 THE TAPE is as it is", x.count(1), 11);
    check.due("34 and read", x.winter(), 2);
    check.due("34 sheets are as they are", x.write(0, 0, 0), 44);
    check.due("34 and there", x.write(1, 1, 0), 0);
    check.due("34 status is as it is", x.status(0), 1);
    x.undo();
    check.due("34 DRY", x.now(1), 2);
  }

  private static void latest() {
    SneezeLights x = new SneezeLights();
    x.image();
    x.sneezer(0, 0);
    x.image();
    x.sneezer(0, 0);
    check.due("34 the latest", x.undo(), 1);
    check.due("34 and no earlier one", x.undo(), 1);
  }

  private static void tear() {
    SneezeLights x = new SneezeLights();
    check.due("35 nothing", x.tear(), 0);
    x.image();
    x.image();
    check.due("35 something", x.tear(), 1);
    check.due("35 nothing then", x.tear(), 0);
    check.due("35 no undo", x.undo(), Check.NONE);
    x.dry(7);
    x.image();
    x.dry(1);
    check.due("35 kept anew", x.undo(), 0);
    check.due("35 DRY", x.now(1), 7);
  }

  private static void count() {
    SneezeLights x = new SneezeLights();
    Check.feedAll(x, "dry");
    x.sneezer(0, 0);
    x.sneezer(1, 0);
    x.set(0, 5, 9999);
    x.set(1, 5, 9);
    x.house(3, 0, 1);
    x.house(4, 0, 99);
    x.house(5, 0, 9);
    check.due("36 SNEEZERS", x.count(0), 2);
    check.due("36 bytes", x.count(1), 3);
    check.due("36 LAMPS", x.count(2), 3);
    x.house(4, 1, 0);
    check.due("36 LAMPS, with a BOOK shut", x.count(2), 3);
    check.due("36 GONE OFF", x.count(3), 10008);
    check.due("36 what -1", x.count(-1), Check.BEYOND);
    check.due("36 what 4", x.count(4), Check.BEYOND);
  }

  private static void status() {
    SneezeLights x = new SneezeLights();
    for (int which = -1; which <= 6; which++) {
      check.due("37 none of " + which, x.status(which), 0);
    }
    check.due("37 -2", x.status(-2), Check.BEYOND);
    check.due("37 counted from then on", x.status(0), 1);
    check.due("37 7", x.status(7), Check.BEYOND);
    check.due("37 MIN", x.status(Integer.MIN_VALUE), Check.BEYOND);
    check.due("37 MAX", x.status(Integer.MAX_VALUE), Check.BEYOND);
    check.due("37 four", x.status(-1), 4);
    x.image();
    x.sneezer(9, 9);
    x.undo();
    check.due("37 undo takes none back", x.status(0), 5);
    check.due("37 a FAULT is none", x.winter(), -1);
    check.due("37 five yet", x.status(-1), 5);
  }

  private static void statusOfEach() {
    SneezeLights x = new SneezeLights();
    for (int i = 0; i < 8; i++) {
      x.sneezer(0, 0);
    }
    x.dry(10);
    x.sneezer(0, 0);
    x.sneezer(0, 0);
    x.as(0, 1);
    x.undo();
    x.undo();
    x.undo();
    x.lays(0);
    x.write(0, 0, 0);
    x.sheet(0, 8, -1);
    int[] want = {1, 2, 1, 3, 0, 2, 1};
    for (int which = 0; which <= 6; which++) {
      check.due("37 which " + which, x.status(which), want[which]);
    }
    check.due("37 all", x.status(-1), 10);
  }
}
