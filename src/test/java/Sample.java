/** Three objects that tests start from, and looks at all that can be asked of one; each with its look within 512 calls. */
enum Sample {
  /** Just made. */
  EMPTY(0),
  /** Three sneezers, some bytes on THE TAPE, three sheets (the last is MISSING), an image of another street. */
  SOME(3),
  /** Eight sneezers, 120 bytes on THE TAPE, four sheets of 40 numbers, and of all other numbers the greatest. */
  FULL(8);

  final int ones;

  Sample(int ones) {
    this.ones = ones;
  }

  SneezeLights made() {
    SneezeLights x = new SneezeLights();
    if (this == SOME) {
      fillSome(x);
    } else if (this == FULL) {
      fillAll(x);
    }
    return x;
  }

  private static void fillSome(SneezeLights x) {
    feedFours(x, "baron 2 cold 60 tickle 50;child 4 south;lamp 3 9;shut 9;dry 1");
    x.winter();
    x.image();
    x.minutes(4);
    x.sneezer(5, 5);
    x.set(0, 5, 7);
    x.sheet(0, 8, 3);
    x.write(0, 0, -7);
    x.write(0, 2, 20);
    x.sheet(1, 16, 2);
    x.write(1, 0, 300);
    x.sheet(2, 64, 4);
    x.write(2, 1, Long.MIN_VALUE);
    x.write(2, 3, 77);
    feedFours(x, "dry 3;lamp 2 2; baron 11");
  }

  private static void fillAll(SneezeLights x) {
    x.image();
    x.minutes(3);
    for (int i = 0; i < 8; i++) {
      x.sneezer(i % 6, 11 - i);
      x.set(i, 3, 99);
      x.set(i, 4, 99);
      x.set(i, 5, 9999);
    }
    for (int h = 0; h < 12; h++) {
      x.house(h, 0, 99);
      x.house(h, 2, 9999);
    }
    x.dry(9);
    int[] bits = {8, 16, 64, 64};
    for (int s = 0; s < 4; s++) {
      x.sheet(s, bits[s], 40);
      x.write(s, 0, 10 + s);
      x.write(s, 39, -1 - s);
    }
    feedFours(x, textOf120());
  }

  /** Fifteen ITEMS of 8 bytes each, their signs among them. */
  static String textOf120() {
    StringBuilder text = new StringBuilder();
    for (int i = 0; i < 14; i++) {
      text.append(String.format("shut %2d;", i % 12));
    }
    return text.append("lamp11 7").toString();
  }

  static void feedFours(SneezeLights x, String text) {
    for (int i = 0; i < text.length(); i += 4) {
      int bytes = 0;
      int n = Math.min(4, text.length() - i);
      for (int k = 0; k < n; k++) {
        bytes = bytes << 8 | text.charAt(i + k);
      }
      x.feed(bytes, n);
    }
  }

  static final int LOOKS = 4;

  /** One of the looks: the street and all counts, the sheets, what THE TAPE tells, the image. */
  static String look(SneezeLights x, int look) {
    switch (look) {
      case 0: return Check.stateOf(x) + x.count(0) + " " + x.count(1) + " " + x.count(2) + " " + x.count(3);
      case 1: return sheetsOf(x);
      case 2: return x.winter() + " " + Check.stateOf(x);
      default: return x.undo() + " " + Check.stateOf(x) + x.tear();
    }
  }

  private static String sheetsOf(SneezeLights x) {
    StringBuilder line = new StringBuilder();
    for (int s = 0; s < 4; s++) {
      for (int i = 0; i <= 40; i++) {
        // What doesn't fit shows how many bits the sheet has.
        long was = x.write(s, i, 0x123456789abcdefL);
        line.append(was).append(' ');
        if (was == Check.BEYOND || was == Check.MISSING) {
          break;
        }
      }
      line.append(x.write(s, 0, 0)).append('|');
    }
    return line.toString();
  }
}
