import java.util.Arrays;

/**
 * Promises 2 to 37: each call that is refused, with its finding; that it changes nothing but status(); and of two findings
 * that both would hold the one that is told. What may just be is tried too: it is not refused.
 */
public final class RefusalsTest {
  private static final Check check = new Check();

  public static void main(String[] args) {
    house();
    houseOf();
    dry();
    now();
    sneezer();
    of();
    set();
    turn();
    as();
    minutes();
    on();
    then();
    lit();
    goes();
    well();
    feather();
    seat();
    kind();
    driest();
    needs();
    dear();
    open();
    feed();
    neverRefused();
    sheet();
    write();
    copy();
    lays();
    book();
    read();
    undo();
    count();
    status();
    check.end();
  }

  /** Which of status() tells a finding. */
  private static int which(int finding) {
    return -1000000001 - finding;
  }

  private static long[] statusOf(SneezeLights x) {
    long[] all = new long[8];
    for (int which = -1; which <= 6; which++) {
      all[which + 1] = x.status(which);
    }
    return all;
  }

  /** "One that answers a finding changes nothing but status()": so the object is as its twin that was not asked. */
  private static void refused(Sample sample, String call, int finding) {
    String label = call + " (" + sample + ")";
    for (int look = 0; look < Sample.LOOKS; look++) {
      SneezeLights asked = sample.made();
      SneezeLights twin = sample.made();
      check.due(label, Calls.call(asked, call), finding);
      long[] due = statusOf(twin);
      due[0]++;
      due[which(finding) + 1]++;
      check.holds("status after " + label, Arrays.equals(statusOf(asked), due));
      check.holds("nothing changes by " + label, Sample.look(asked, look).equals(Sample.look(twin, look)));
    }
  }

  private static void taken(Sample sample, String call) {
    check.holds("it is taken: " + call + " (" + sample + ")", Calls.call(sample.made(), call) != Check.BEYOND);
  }

  /** The number that stands for "?" may be least to most and no other. */
  private static void range(Sample sample, String call, int least, int most) {
    taken(sample, call.replace("?", "" + least));
    taken(sample, call.replace("?", "" + most));
    outside(sample, call, least, most);
  }

  private static void outside(Sample sample, String call, int least, int most) {
    refused(sample, call.replace("?", "" + (least - 1)), Check.BEYOND);
    refused(sample, call.replace("?", "" + (most + 1)), Check.BEYOND);
    refused(sample, call.replace("?", "MIN"), Check.BEYOND);
    refused(sample, call.replace("?", "MAX"), Check.BEYOND);
  }

  private static void rangeInAll(String call, int least, int most) {
    for (Sample sample : Sample.values()) {
      range(sample, call, least, most);
    }
  }

  /** The number that stands for "?" is a SNEEZER that is there; of nobody there is none, not 0 either. */
  private static void ones(String call) {
    range(Sample.SOME, call, 0, 2);
    range(Sample.FULL, call, 0, 7);
    refused(Sample.EMPTY, call.replace("?", "0"), Check.BEYOND);
    outside(Sample.EMPTY, call, 0, -1);
  }

  private static void rangeWithOnes(String call, int least, int most) {
    range(Sample.SOME, call, least, most);
    range(Sample.FULL, call, least, most);
  }

  /** "LAMP (what 0), BOOK (1), READ (2) of a HOUSE becomes v. BEYOND." */
  private static void house() {
    rangeInAll("house ? 0 5", 0, 11);
    rangeInAll("house ? 1 0", 0, 11);
    rangeInAll("house ? 2 5", 0, 11);
    rangeInAll("house 4 ? 1", 0, 2);
    rangeInAll("house 0 0 ?", 0, 99);
    rangeInAll("house 11 1 ?", 0, 1);
    rangeInAll("house 5 2 ?", 0, 9999);
    refused(Sample.SOME, "house 12 3 -1", Check.BEYOND);
  }

  /** "Of a HOUSE: what 0 LAMP, 1 BOOK, 2 READ, 3 who is AT it, as a set. BEYOND." */
  private static void houseOf() {
    rangeInAll("houseOf ? 0", 0, 11);
    rangeInAll("houseOf ? 1", 0, 11);
    rangeInAll("houseOf ? 2", 0, 11);
    rangeInAll("houseOf ? 3", 0, 11);
    rangeInAll("houseOf 4 ?", 0, 3);
  }

  /** "DRY becomes v: what it was. BEYOND." */
  private static void dry() {
    rangeInAll("dry ?", 0, 9);
  }

  /** "What 0 MINUTE, .. 6 READ of all. BEYOND." */
  private static void now() {
    rangeInAll("now ?", 0, 6);
  }

  /** "One more AT a HOUSE: the number. BEYOND: kind, house. FULL." */
  private static void sneezer() {
    range(Sample.EMPTY, "sneezer ? 3", 0, 5);
    range(Sample.EMPTY, "sneezer 3 ?", 0, 11);
    range(Sample.SOME, "sneezer ? 3", 0, 5);
    range(Sample.SOME, "sneezer 3 ?", 0, 11);
    for (int kind = 0; kind < 6; kind++) {
      refused(Sample.FULL, "sneezer " + kind + " 0", Check.FULL);
      refused(Sample.FULL, "sneezer " + kind + " 11", Check.FULL);
    }
    // Beyond and full: BEYOND is asked first.
    outside(Sample.FULL, "sneezer ? 3", 0, 5);
    outside(Sample.FULL, "sneezer 3 ?", 0, 11);
  }

  /** "Of one: what 0 KIND, .. 9 HEALS. BEYOND." */
  private static void of() {
    for (int what = 0; what <= 9; what++) {
      ones("of ? " + what);
    }
    rangeWithOnes("of 2 ?", 0, 9);
  }

  /** "HOUSE (what 1), FACES (2), COLD (3), TICKLE (4), GONE OFF (5) of one becomes v: what it was. BEYOND." */
  private static void set() {
    for (int what = 1; what <= 5; what++) {
      ones("set ? " + what + " 0");
    }
    rangeWithOnes("set 1 ? 1", 1, 5);
    rangeWithOnes("set 0 1 ?", 0, 11);
    rangeWithOnes("set 1 2 ?", 0, 1);
    rangeWithOnes("set 2 3 ?", 0, 99);
    rangeWithOnes("set 0 4 ?", 0, 99);
    rangeWithOnes("set 1 5 ?", 0, 9999);
  }

  /** "One becomes one of another KIND: what it was. BEYOND." */
  private static void turn() {
    ones("turn ? 0");
    ones("turn ? 5");
    rangeWithOnes("turn 2 ?", 0, 5);
  }

  /** "One as one of a kind: COLD. BEYOND: no such one, kind. KIND: it isn't of that kind, nor of one under it." */
  private static void as() {
    ones("as ? 0");
    ones("as ? 5");
    rangeWithOnes("as 2 ?", 0, 5);
    String[] above = {"0", "01", "02", "03", "014", "025"};
    for (int i = 0; i < 8; i++) {
      for (int kind = 0; kind < 6; kind++) {
        if (above[i % 6].indexOf('0' + kind) < 0) {
          refused(Sample.FULL, "as " + i + " " + kind, Check.KIND);
        }
      }
    }
    // It is of no kind 6 either: BEYOND is asked first.
    refused(Sample.FULL, "as 1 6", Check.BEYOND);
    refused(Sample.FULL, "as 8 6", Check.BEYOND);
  }

  /** "n MINUTES go (1 to 100). BEYOND. STATE: MINUTE would be above 99999." (STATE: MinuteEdgesTest.) */
  private static void minutes() {
    rangeInAll("minutes ?", 1, 100);
  }

  /** "COLD (what 0), TICKLE (1), GONE OFF (2) of one n MINUTES (0 to 200) AHEAD. BEYOND." */
  private static void on() {
    for (int what = 0; what <= 2; what++) {
      ones("on ? 0 " + what);
      rangeWithOnes("on 1 ? " + what, 0, 200);
    }
    rangeWithOnes("on 0 7 ?", 0, 2);
  }

  /** "LAMP (what 0), READ (1) of a HOUSE n MINUTES (0 to 200) AHEAD. BEYOND." */
  private static void then() {
    for (int what = 0; what <= 1; what++) {
      rangeInAll("then ? 0 " + what, 0, 11);
      rangeInAll("then 3 ? " + what, 0, 200);
    }
    rangeInAll("then 3 7 ?", 0, 1);
  }

  /** "In how many MINUTES (0 to 200) the LAMP of a HOUSE burns first (v 1), or is out first (0). BEYOND. NONE." */
  private static void lit() {
    rangeInAll("lit ? 0", 0, 11);
    rangeInAll("lit ? 1", 0, 11);
    rangeInAll("lit 3 ?", 0, 1);
    for (int h = 0; h < 12; h++) {
      refused(Sample.EMPTY, "lit " + h + " 1", Check.NONE);
    }
    refused(Sample.SOME, "lit 9 1", Check.NONE);
    // No such HOUSE ever burns: BEYOND is asked first.
    refused(Sample.EMPTY, "lit 12 1", Check.BEYOND);
    refused(Sample.EMPTY, "lit 0 2", Check.BEYOND);
  }

  /** "In how many MINUTES (1 to 200) one has GONE OFF next. BEYOND. NONE." */
  private static void goes() {
    ones("goes ?");
    // The DOCTOR doesn't tickle; asked on a street of its own, as all others go.
    SneezeLights x = new SneezeLights();
    x.sneezer(3, 0);
    check.due("15 a doctor never", x.goes(0), Check.NONE);
    check.due("15 NONE is counted", x.status(3), 1);
    check.due("15 and nothing else", x.status(-1), 1);
    check.due("15 BEYOND before NONE", x.goes(1), Check.BEYOND);
  }

  /** "In how many MINUTES (0 to 200) nobody has a COLD first. NONE." */
  private static void well() {
    check.due("16 nobody is there", Calls.call(Sample.EMPTY.made(), "well"), 0);
    refused(Sample.SOME, "well", Check.NONE);
    refused(Sample.FULL, "well", Check.NONE);
  }

  /** "n MINUTES (1 to 60) AHEAD. BEYOND. NONE: nobody is there." */
  private static void feather() {
    rangeInAll("feather ?", 1, 60);
    refused(Sample.EMPTY, "feather 1", Check.NONE);
    refused(Sample.EMPTY, "feather 60", Check.NONE);
  }

  /** "Where one had best be .. n MINUTES (1 to 60) AHEAD. BEYOND." */
  private static void seat() {
    ones("seat ? 1");
    ones("seat ? 60");
    rangeWithOnes("seat 1 ?", 1, 60);
  }

  /** "The KIND as one of which .. n MINUTES (1 to 60) AHEAD. BEYOND." */
  private static void kind() {
    ones("kind ? 1");
    ones("kind ? 60");
    rangeWithOnes("kind 1 ?", 1, 60);
  }

  /** "The greatest DRY (0 to 9) with which READ of all is v (0 to 99999) or more n MINUTES (1 to 60) AHEAD. BEYOND. NONE." */
  private static void driest() {
    rangeInAll("driest ? 0", 1, 60);
    rangeInAll("driest ? 99999", 1, 60);
    rangeInAll("driest 1 ?", 0, 99999);
    refused(Sample.EMPTY, "driest 1 1", Check.NONE);
    refused(Sample.SOME, "driest 60 99999", Check.NONE);
    // 100000 is read of none either: BEYOND is asked first.
    refused(Sample.EMPTY, "driest 60 100000", Check.BEYOND);
    refused(Sample.EMPTY, "driest 61 1", Check.BEYOND);
  }

  /** "The least COLD (0 to 99) of one now with which the LAMP of a HOUSE burns n MINUTES (0 to 60) AHEAD. BEYOND. NONE." */
  private static void needs() {
    ones("needs ? 3 0");
    ones("needs ? 3 60");
    rangeWithOnes("needs 1 ? 0", 0, 11);
    rangeWithOnes("needs 1 ? 60", 0, 11);
    rangeWithOnes("needs 1 3 ?", 0, 60);
    refused(Sample.SOME, "needs 0 9 0", Check.NONE);
    refused(Sample.SOME, "needs 0 9 60", Check.NONE);
    // Its BOOK is shut and there is no such one: BEYOND is asked first.
    refused(Sample.SOME, "needs 3 9 60", Check.BEYOND);
    refused(Sample.SOME, "needs 0 9 61", Check.BEYOND);
  }

  /** "Whose COLD, 0 now, .. n MINUTES (1 to 60) AHEAD. BEYOND. NONE: nobody is there." */
  private static void dear() {
    rangeInAll("dear ?", 1, 60);
    refused(Sample.EMPTY, "dear 1", Check.NONE);
    refused(Sample.EMPTY, "dear 60", Check.NONE);
  }

  /** "The HOUSE whose BOOK .. n MINUTES (1 to 60) AHEAD. BEYOND." */
  private static void open() {
    rangeInAll("open ?", 1, 60);
  }

  /** "THE TAPE gets the n lowest bytes of a number behind it (n 1 to 4). BEYOND: n. FULL." */
  private static void feed() {
    range(Sample.EMPTY, "feed 97 ?", 1, 4);
    range(Sample.SOME, "feed 97 ?", 1, 4);
    for (int n = 1; n <= 4; n++) {
      refused(Sample.FULL, "feed 97 " + n, Check.FULL);
    }
    // Beyond and full: BEYOND is asked first.
    outside(Sample.FULL, "feed 97 ?", 1, 4);
  }

  /** wipe, winter, image and tear answer no finding, whatever there is. */
  private static void neverRefused() {
    for (Sample sample : Sample.values()) {
      for (String call : new String[] {"wipe", "winter", "image", "tear"}) {
        SneezeLights x = sample.made();
        check.holds(call + " is no finding (" + sample + ")", Calls.call(x, call) > -1000);
        check.due("no finding of " + call + " (" + sample + ")", x.status(-1), 0);
      }
    }
  }

  /**
   * "BEYOND: no such sheet, other bits. SIZE: n is below 0 (also with bits 0). BEYOND: n is above 40 (also with bits 0)."
   */
  private static void sheet() {
    rangeInAll("sheet ? 8 1", 0, 3);
    rangeInAll("sheet ? 0 1", 0, 3);
    for (Sample sample : Sample.values()) {
      for (int bits : new int[] {0, 8, 16, 64}) {
        String call = "sheet 1 " + bits;
        taken(sample, call + " 0");
        taken(sample, call + " 40");
        refused(sample, call + " -1", Check.SIZE);
        refused(sample, call + " MIN", Check.SIZE);
        refused(sample, call + " 41", Check.BEYOND);
        refused(sample, call + " MAX", Check.BEYOND);
      }
      for (String bits : "-1 1 7 9 15 17 32 63 65 -8 -64 128 MIN MAX".split(" ")) {
        refused(sample, "sheet 1 " + bits + " 1", Check.BEYOND);
        // Other bits and below 0: BEYOND is asked first.
        refused(sample, "sheet 1 " + bits + " -1", Check.BEYOND);
      }
      refused(sample, "sheet 4 8 -1", Check.BEYOND);
      refused(sample, "sheet -1 0 -1", Check.BEYOND);
    }
  }

  /** "Number i of a sheet becomes v. BEYOND: no such sheet. MISSING. BEYOND: no such number." */
  private static void write() {
    range(Sample.FULL, "write ? 0 5", 0, 3);
    for (int s = 0; s < 4; s++) {
      range(Sample.FULL, "write " + s + " ? 5", 0, 39);
      refused(Sample.EMPTY, "write " + s + " 0 5", Check.MISSING);
    }
    range(Sample.SOME, "write 0 ? 5", 0, 2);
    range(Sample.SOME, "write 1 ? 5", 0, 1);
    range(Sample.SOME, "write 2 ? 5", 0, 3);
    // A MISSING sheet has no such number either: MISSING is asked first.
    for (String i : "0 -1 40 MIN MAX".split(" ")) {
      refused(Sample.SOME, "write 3 " + i + " 5", Check.MISSING);
    }
    outside(Sample.EMPTY, "write ? 0 5", 0, 3);
  }

  /**
   * "BEYOND: no such sheet (either). MISSING: one is. KIND: they are not of as many bits. BEYOND: one has not so many, or
   * from, to or n is below 0."
   */
  private static void copy() {
    outsideOfSheets("copy ? 0 2 0 1");
    outsideOfSheets("copy 2 0 ? 0 1");
    copyMissing();
    copyKind();
    copyRuns();
  }

  private static void copyRuns() {
    // From 0 to 40 with none, to 39 with one: both have so many.
    range(Sample.FULL, "copy 2 ? 3 0 0", 0, 40);
    range(Sample.FULL, "copy 2 0 3 ? 0", 0, 40);
    range(Sample.FULL, "copy 2 ? 3 0 1", 0, 39);
    range(Sample.FULL, "copy 2 0 3 ? 1", 0, 39);
    range(Sample.FULL, "copy 2 0 3 0 ?", 0, 40);
    range(Sample.FULL, "copy 2 7 3 0 ?", 0, 33);
    range(Sample.FULL, "copy 2 0 3 7 ?", 0, 33);
    range(Sample.FULL, "copy 1 9 1 7 ?", 0, 31);
    range(Sample.SOME, "copy 0 1 0 0 ?", 0, 2);
    refused(Sample.FULL, "copy 2 MAX 3 MAX MAX", Check.BEYOND);
    refused(Sample.FULL, "copy 2 1 3 1 MAX", Check.BEYOND);
    refused(Sample.FULL, "copy 2 MIN 3 MIN MIN", Check.BEYOND);
    refused(Sample.FULL, "copy 2 41 3 0 -1", Check.BEYOND);
  }

  private static void outsideOfSheets(String call) {
    outside(Sample.FULL, call, 0, 3);
    outside(Sample.SOME, call, 0, 3);
    outside(Sample.EMPTY, call, 0, 3);
  }

  private static void copyMissing() {
    refused(Sample.SOME, "copy 3 0 0 0 1", Check.MISSING);
    refused(Sample.SOME, "copy 0 0 3 0 1", Check.MISSING);
    refused(Sample.SOME, "copy 3 0 3 0 0", Check.MISSING);
    refused(Sample.EMPTY, "copy 0 0 1 0 0", Check.MISSING);
    // No such sheet, and the other is MISSING: BEYOND is asked first.
    refused(Sample.SOME, "copy 3 0 4 0 1", Check.BEYOND);
    refused(Sample.SOME, "copy -1 0 3 0 1", Check.BEYOND);
    // MISSING, and a run that can't be.
    refused(Sample.SOME, "copy 3 -1 0 0 1", Check.MISSING);
    refused(Sample.SOME, "copy 0 0 3 0 41", Check.MISSING);
  }

  private static void copyKind() {
    for (String two : new String[] {"0 0 1 0", "1 0 0 0", "0 0 2 0", "2 0 0 0", "1 0 2 0", "2 0 1 0"}) {
      refused(Sample.SOME, "copy " + two + " 1", Check.KIND);
      refused(Sample.SOME, "copy " + two + " 0", Check.KIND);
      // And a run that can't be: KIND is asked first.
      refused(Sample.SOME, "copy " + two + " -1", Check.KIND);
      refused(Sample.SOME, "copy " + two + " 41", Check.KIND);
    }
    refused(Sample.SOME, "copy 0 -1 1 0 1", Check.KIND);
    refused(Sample.SOME, "copy 0 0 1 -1 1", Check.KIND);
  }

  /** "Numbers of a sheet become COLD of SNEEZERS. BEYOND: no such sheet. MISSING." */
  private static void lays() {
    range(Sample.FULL, "lays ?", 0, 3);
    outside(Sample.EMPTY, "lays ?", 0, 3);
    refused(Sample.SOME, "lays 3", Check.MISSING);
    for (int s = 0; s < 4; s++) {
      refused(Sample.EMPTY, "lays " + s, Check.MISSING);
    }
  }

  /** "BEYOND: no such sheet. MISSING. BEYOND: sneezer." */
  private static void book() {
    sheetAndOne("book");
  }

  /** "BEYOND: no such sheet. MISSING. BEYOND: sneezer." */
  private static void read() {
    sheetAndOne("read");
  }

  private static void sheetAndOne(String call) {
    range(Sample.FULL, call + " ? 0", 0, 3);
    range(Sample.FULL, call + " 3 ?", 0, 7);
    range(Sample.SOME, call + " 0 ?", 0, 2);
    outside(Sample.EMPTY, call + " ? 0", 0, 3);
    // MISSING, and there is no such one: MISSING is asked first.
    for (String one : "0 2 3 8 -1 MIN MAX".split(" ")) {
      refused(Sample.SOME, call + " 3 " + one, Check.MISSING);
      refused(Sample.EMPTY, call + " 0 " + one, Check.MISSING);
    }
  }

  /** "It becomes what was kept latest. NONE: nothing is kept." */
  private static void undo() {
    refused(Sample.EMPTY, "undo", Check.NONE);
    SneezeLights x = Sample.SOME.made();
    x.tear();
    String before = Sample.look(x, 0);
    check.due("34 it was torn", x.undo(), Check.NONE);
    check.holds("34 nothing changes", before.equals(Sample.look(x, 0)));
    check.due("34 NONE is counted", x.status(3), 1);
  }

  /** "BEYOND: another what." */
  private static void count() {
    rangeInAll("count ?", 0, 3);
  }

  /** "Which -1: all, 0 to 6: BEYOND to SIZE. BEYOND (counted from then on): another one." */
  private static void status() {
    rangeInAll("status ?", -1, 6);
  }
}
