/** Counts and prints the answers that are not as due. */
final class Check {
  static final int BEYOND = -1000000001;
  static final int FULL = -1000000002;
  static final int KIND = -1000000003;
  static final int NONE = -1000000004;
  static final int STATE = -1000000005;
  static final int MISSING = -1000000006;
  static final int SIZE = -1000000007;

  private int wrong = 0;
  private int asked = 0;

  void due(String what, long got, long want) {
    asked++;
    if (got != want) {
      wrong++;
      System.out.println(what + " answered " + got + ", due is " + want);
    }
  }

  void holds(String what, boolean fact) {
    asked++;
    if (!fact) {
      wrong++;
      System.out.println(what + " does not hold");
    }
  }

  boolean isWrong() {
    return wrong > 0;
  }

  void end() {
    System.out.println(wrong == 0 ? asked + " answers are as due" : wrong + " of " + asked + " answers are not as due");
    if (wrong != 0) {
      System.exit(1);
    }
  }

  /** Feeds a text to THE TAPE byte by byte: how many bytes it has then. */
  static int feedAll(SneezeLights x, String text) {
    int has = 0;
    for (int i = 0; i < text.length(); i++) {
      has = x.feed(text.charAt(i), 1);
    }
    return has;
  }

  static int winterOf(SneezeLights x, String text) {
    feedAll(x, text);
    return x.winter();
  }

  /** Everything that calls tell of the street and the sneezers, in one line. */
  static String stateOf(SneezeLights x) {
    StringBuilder line = new StringBuilder();
    for (int what = 0; what <= 6; what++) {
      line.append(x.now(what)).append(' ');
    }
    for (int h = 0; h < 12; h++) {
      line.append('|');
      for (int what = 0; what <= 3; what++) {
        line.append(x.houseOf(h, what)).append(' ');
      }
    }
    for (int i = 0; i < x.count(0); i++) {
      line.append('/');
      for (int what = 0; what <= 9; what++) {
        line.append(x.of(i, what)).append(' ');
      }
    }
    return line.toString();
  }
}
