import java.util.List;

/** Terms 1 and promises 24 to 26: each TOKEN at each place of THE TEXT, where its FAULT lies, the empty and the full TAPE. */
public final class FaultsTest {
  private static final Check check = new Check();
  private static final String STARTS = "sneezer baron child doctor bishop babe open shut dry lamp";
  private static final String HOUSES = "0 1 9 10 11 009 011 000";
  private static final String TO_99 = "0 1 9 10 11 12 98 99 009 011 099 000";
  private static final String TO_9 = "0 1 9 009 000";
  private static final String END = ";";
  private static final String[] TOKENS = (STARTS + " south cold tickle north sneeze sneezers babes dr a zz ;"
      + " 0 1 9 10 11 12 98 99 100 101 999 1000 1001 99999 4294967296 4294967301 18446744073709551617 011 099 009 000 0100 01000"
      + " A Z - + . , : / ` { [ @ ! \t \n \r \0 \u001f \u007f \u0080 \u00a0 \u00e9 \u00ff").split(" ");

  public static void main(String[] args) {
    eachTokenAtEachPlace();
    eachByteAlone();
    aNinth();
    endsTooEarly();
    theFirstFaultIsTold();
    tokensAreAsLongAsCanBe();
    blanks();
    theFullTape();
    theEmptyTape();
    feedBytes();
    numbersComeAsTold();
    check.end();
  }

  /** What THE TAPE answers, and that with a FAULT nothing changes but that it is empty, and there is no finding. */
  private static int told(SneezeLights x, String text) {
    String before = Check.stateOf(x);
    check.due("24 it has all of " + text, text.isEmpty() ? 0 : Check.feedAll(x, text), text.length());
    int answer = x.winter();
    check.due("26 THE TAPE is empty after " + text, x.count(1), 0);
    check.due("26 no finding of " + text, x.status(-1), 0);
    if (answer < 0) {
      check.holds("26 nothing changes by " + text, before.equals(Check.stateOf(x)));
    }
    return answer;
  }

  private static void due(String text, int answer) {
    check.due("26 '" + text + "'", told(new SneezeLights(), text), answer);
  }

  private static void fault(String text, int place) {
    due(text, -1 - place);
  }

  /** A text so far, and the TOKENS that can stand behind it; whether it is a whole one without any. */
  private static void after(String soFar, boolean isWhole, String canStand) {
    List<String> can = List.of(canStand.split(" "));
    int items = soFar.split(";").length;
    check.due("26 '" + soFar + "'", told(new SneezeLights(), soFar), isWhole ? items : -1 - soFar.length());
    for (String token : TOKENS) {
      String text = soFar + token;
      int got = told(new SneezeLights(), text);
      if (!can.contains(token)) {
        check.due("26 '" + text + "': it can't stand there", got, -1 - soFar.length());
      } else {
        check.holds("26 '" + text + "': it can stand there", got > 0 || got == -1 - text.length());
      }
    }
    for (String token : can) {
      check.holds("one of the TOKENS that are tried: " + token, List.of(TOKENS).contains(token));
    }
  }

  private static void eachTokenAtEachPlace() {
    after("", false, STARTS);
    after("dry 1;", false, STARTS);
    after("baron 1;  ", false, STARTS);
    for (String kind : "sneezer baron child doctor bishop babe".split(" ")) {
      after(kind + " ", false, HOUSES);
      after(kind + " 3 ", true, "south cold tickle ;");
      after(kind + " 3 south ", true, "cold tickle ;");
      after(kind + " 3 cold ", false, TO_99);
      after(kind + " 3 south cold ", false, TO_99);
      after(kind + " 3 cold 5 ", true, "tickle ;");
      after(kind + " 3 south cold 5 ", true, "tickle ;");
      after(kind + " 3 tickle ", false, TO_99);
      after(kind + " 3 south tickle ", false, TO_99);
      after(kind + " 3 cold 5 tickle ", false, TO_99);
      after(kind + " 3 south cold 5 tickle ", false, TO_99);
      after(kind + " 3 tickle 5 ", true, END);
      after(kind + " 3 south tickle 5 ", true, END);
      after(kind + " 3 cold 5 tickle 5 ", true, END);
      after(kind + " 3 south cold 5 tickle 5 ", true, END);
    }
    after("open ", false, HOUSES);
    after("open 3 ", true, END);
    after("shut ", false, HOUSES);
    after("shut 3 ", true, END);
    after("dry ", false, TO_9);
    after("dry 3 ", true, END);
    after("lamp ", false, HOUSES);
    after("lamp 3 ", false, TO_99);
    after("lamp 3 4 ", true, END);
    after("dry 1;open 2;lamp 3 4;babe 5;shut ", false, HOUSES);
  }

  /** "A byte that begins no TOKEN": all but letters a to z, digits, the sign and the blank. */
  private static void eachByteAlone() {
    for (int b = 0; b < 256; b++) {
      String sign = "" + (char) b;
      boolean isBlank = b == ' ';
      fault(sign, isBlank ? 1 : 0);
      boolean isDigit = b >= '0' && b <= '9';
      // Behind "dry 0" a digit makes it 0 to 9, a blank nothing, a sign asks for one more.
      due("dry 0" + sign, isDigit || isBlank ? 1 : b == ';' ? -7 : -6);
      due("dry" + sign + "1", isBlank ? 1 : isDigit ? (b == '0' ? 1 : -4) : b >= 'a' && b <= 'z' ? -1 : -4);
    }
  }

  /** "The name of a KIND for a 9th: its own": before what comes behind it. */
  private static void aNinth() {
    String[] behind = {"", " ", " 3", " 12", " 3 south cold 5", ";", " Q"};
    for (String kind : "sneezer baron child doctor bishop babe".split(" ")) {
      for (String b : behind) {
        check.due("26 a 9th: " + kind + b, told(those(8), kind + b), -1);
        check.due("26 a 9th: dry 5; " + kind + b, told(those(8), "dry 5; " + kind + b), -8);
      }
    }
    check.due("26 all else may come", told(those(8), "dry 5;open 1;shut 2;lamp 3 4"), 4);
    check.due("26 another WORD", told(those(8), "dry 5;barons"), -7);
    check.due("26 an 8th and a 9th", told(those(7), "babe 1 south;babe 2"), -14);
    SneezeLights x = those(7);
    check.due("26 an 8th", told(x, "babe 11 south"), 1);
    check.due("26 it came", x.of(7, 1), 11);
  }

  private static SneezeLights those(int ones) {
    SneezeLights x = new SneezeLights();
    for (int i = 0; i < ones; i++) {
      x.sneezer(i % 6, i);
    }
    return x;
  }

  /** "Or how many bytes there are if it ends too early": blanks at its end too. */
  private static void endsTooEarly() {
    String[] early = {
      "", "dry", "open", "shut", "lamp", "lamp 1", "babe", "babe 1 cold", "babe 1 tickle", "babe 1 south cold",
      "babe 1 cold 2 tickle", "dry 1;", "dry 1;dry 2;", "babe 1;",
    };
    for (String text : early) {
      fault(text, text.length());
      fault(text + " ", text.length() + 1);
      fault(text + "    ", text.length() + 4);
      fault("  " + text, text.length() + 2);
    }
  }

  private static void theFirstFaultIsTold() {
    fault("dry 10;dry 11", 4);
    fault("wet 1;dry 10", 0);
    fault("lamp 12 100", 5);
    fault("lamp 11 100", 8);
    fault("babe 12 cold 100", 5);
    fault("babe 1 cold 100 tickle 100", 12);
    fault("babe 1 cold 99 tickle 100", 22);
    fault("babe 1 tickle 5 cold", 16);
    fault("dry 1;;;", 6);
    fault("dry 1 Q;", 6);
  }

  /** "TOKENS, each as long as can be." */
  private static void tokensAreAsLongAsCanBe() {
    due("dry9", 1);
    due("lamp3 4;babe5south cold6tickle7;open0;shut11", 4);
    fault("lamp34", 4);
    fault("babe 1southcold 5", 6);
    fault("babe 1 south1", 12);
    fault("dry 1dry 2", 5);
    fault("dry 1open 2", 5);
    fault("babebabe 1", 0);
    fault("babe1 1", 6);
    fault("dr y 1", 0);
    fault("dry 1 0", 6);
    // 1 and 2 would do, 12 doesn't.
    fault("lamp 12", 5);
    fault("lamp 1 234", 7);
  }

  private static void blanks() {
    due("   dry   4   ;   lamp   1   2   ", 2);
    due("dry 4;lamp 1 2", 2);
    due("babe 1 south  cold  2  tickle  3", 1);
    fault("dry\t4", 3);
    fault("dry\n4", 3);
    fault("dry\u00a04", 3);
  }

  /** "THE TAPE (bytes, at most 120)": a text of as many, its FAULT at the last byte and behind it. */
  private static void theFullTape() {
    SneezeLights x = Sample.FULL.made();
    check.due("26 fifteen ITEMS in 120 bytes", x.winter(), 15);
    check.due("26 all are shut", x.now(3), 0);
    check.due("26 the last ITEM", x.houseOf(11, 0), 7);
    String blank = " ".repeat(115);
    due(blank + "dry 9", 1);
    due("dry 9" + blank, 1);
    due("dry 9" + blank.substring(1) + ";", -121);
    due("dry 9" + blank.substring(1) + "Q", -120);
    due(blank + "dry  ", -121);
    due(" ".repeat(120), -121);
    due("a".repeat(120), -1);
    due("1".repeat(120), -1);
    due(";".repeat(120), -1);
    due("dry " + "0".repeat(115) + "7", 1);
    due("dry " + "9".repeat(116), -5);
    due("dry 1;".repeat(19) + "dry 10", -119);
    due("dry 1;".repeat(20), -121);
    due("dry 1;".repeat(19) + " dry 2", 20);
    due("dry1;".repeat(23) + "dry 2", 24);
  }

  private static void theEmptyTape() {
    SneezeLights x = new SneezeLights();
    check.due("26 nothing at all", x.winter(), -1);
    check.due("26 and again", x.winter(), -1);
    check.due("25 nothing to wipe", x.wipe(), 0);
    check.due("37 no finding", x.status(-1), 0);
    x = Sample.FULL.made();
    check.due("25 all of it", x.wipe(), 120);
    check.due("25 it is empty", x.count(1), 0);
    check.due("26 nothing is told", x.winter(), -1);
    check.due("24 there is room again", x.feed(0x64727939, 4), 4);
    check.due("26 and it is read", x.winter(), 1);
  }

  /** "The n lowest bytes of a number behind it, the highest of these first (n 1 to 4): how many it has. FULL." */
  private static void feedBytes() {
    // "dry7" as one number, and its lower bytes behind what stands already.
    int[][] fed = {{'d', 'r', 'y', '7'}, {'d', 'r', 0x7937, -1}, {'d', 0x727937, -1, -1}, {0x64727937, -1, -1, -1}};
    for (int k = 0; k < 4; k++) {
      SneezeLights x = new SneezeLights();
      for (int i = 0; i < 3 - k; i++) {
        check.due("24 one", x.feed(fed[k][i] | 0x5a5a5a00, 1), i + 1);
      }
      int high = k < 3 ? 0x5a << (8 * (k + 1)) : 0;
      check.due("24 the rest", x.feed(fed[k][3 - k] | high, k + 1), 4);
      check.due("26 it is read", x.winter(), 1);
      check.due("26 DRY", x.now(1), 7);
    }
    for (int n = 1; n <= 4; n++) {
      for (int has = 115; has <= 120; has++) {
        SneezeLights x = new SneezeLights();
        Check.feedAll(x, " ".repeat(has));
        check.due("24 " + n + " more than " + has, x.feed(0x20202020, n), has + n <= 120 ? has + n : Check.FULL);
        check.due("36 bytes", x.count(1), has + n <= 120 ? has + n : has);
      }
    }
    SneezeLights x = new SneezeLights();
    check.due("24 the least number", x.feed(Integer.MIN_VALUE, 4), 4);
    check.due("24 a negative one", x.feed(-1, 1), 5);
    check.due("26 bytes are 0 to 255", x.winter(), -1);
  }

  /** The least and the greatest of each NUMBER come to what there is. */
  private static void numbersComeAsTold() {
    SneezeLights x = new SneezeLights();
    check.due("26 the greatest", told(x, "dry 9;lamp 11 99;shut 11;babe 11 south cold 99 tickle 99"), 4);
    check.holds("26 they came", "9 99 0 11 0 99 99".equals(numbers(x, 0)));
    check.due("26 the least", told(x, "dry 0;lamp 11 0;open 11;babe 0 cold 0 tickle 0"), 4);
    check.holds("26 they came", "0 0 1 0 1 0 0".equals(numbers(x, 1)));
    check.due("26 none of them told", told(x, "babe 4"), 1);
    check.holds("26 they are as at first", "0 0 1 4 1 20 0".equals(numbers(x, 2)));
    check.due("26 GONE OFF at first", x.count(3), 0);
    check.due("26 the same one twice: the later stands", told(x, "dry 3;dry 4;lamp 1 5;lamp 1 6;open 2;shut 2"), 6);
    check.due("26 DRY", x.now(1), 4);
    check.due("26 LAMP", x.houseOf(1, 0), 6);
    check.due("26 BOOK", x.houseOf(2, 1), 0);
  }

  private static String numbers(SneezeLights x, int one) {
    return x.now(1) + " " + x.houseOf(11, 0) + " " + x.houseOf(11, 1) + " " + x.of(one, 1) + " " + x.of(one, 2) + " "
        + x.of(one, 3) + " " + x.of(one, 4);
  }
}
