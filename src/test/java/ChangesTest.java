import java.util.Arrays;
import java.util.Set;
import java.util.TreeSet;

/** Promises 2 to 37: what a call changes, and that it changes nothing else of all that an object holds. */
public final class ChangesTest {
  private static final Check check = new Check();

  public static void main(String[] args) {
    for (Sample sample : Sample.values()) {
      asks(sample);
    }
    wellAtLast();
    houses();
    sneezers();
    minutes();
    text();
    sheets();
    copies();
    fromAndToTheStreet();
    images();
    check.end();
  }

  private static void changes(Sample sample, String call, String... due) {
    Set<String> is = Facts.after(sample, call).changesSince(Facts.after(sample));
    check.holds(call + " (" + sample + ") changes " + is + ", which", is.equals(Set.of(due)));
  }

  /** Calls that only answer: nothing is changed, but status by a finding. */
  private static void changesNothing(Sample sample, String... calls) {
    for (String call : calls) {
      long answer = Calls.call(sample.made(), call);
      if (answer < -1000000000) {
        long which = Check.BEYOND - answer;
        SneezeLights x = sample.made();
        changes(sample, call, "status -1 " + (x.status(-1) + 1), "status " + which + " " + (x.status((int) which) + 1));
      } else {
        changes(sample, call);
      }
    }
  }

  private static void asks(Sample sample) {
    changesNothing(sample, "houseOf 3 0", "houseOf 3 1", "houseOf 3 2", "houseOf 5 3", "then 3 7 0", "then 4 200 1");
    for (int what = 0; what <= 9; what++) {
      changesNothing(sample, "of 1 " + what, "now " + what, "count " + what, "status " + (what - 1));
    }
    changesNothing(sample, "as 1 0", "as 1 1", "as 1 2", "on 0 9 0", "on 1 200 1", "on 2 60 2");
    changesNothing(sample, "lit 3 0", "lit 3 1", "lit 11 1", "goes 0", "goes 1", "goes 2", "goes 3", "well");
    changesNothing(sample, "feather 30", "seat 1 12", "kind 1 12", "driest 20 5", "driest 20 99999");
    changesNothing(sample, "needs 1 3 9", "needs 1 11 0", "dear 30", "open 30", "read 0 1", "read 1 0", "read 2 0", "read 3 0");
  }

  /** In the samples with anyone the cold never ends: here it does, in some MINUTES. */
  private static void wellAtLast() {
    String[] calls = {"turn 0 0", "turn 2 3", "set 0 1 0", "set 0 3 9", "set 0 4 0", "set 1 3 9", "set 1 4 0", "well"};
    SneezeLights x = Sample.SOME.made();
    long answer = 0;
    for (String call : calls) {
      answer = Calls.call(x, call);
    }
    check.due("16 well", answer, 9);
    Set<String> is = Facts.after(Sample.SOME, calls).changesSince(Facts.after(Sample.SOME, Arrays.copyOf(calls, calls.length - 1)));
    check.holds("16 well changes " + is + ", which", is.isEmpty());
  }

  private static void houses() {
    changes(Sample.EMPTY, "house 0 0 99", "lamp 0 99");
    changes(Sample.EMPTY, "house 11 1 0", "book 11 0");
    changes(Sample.EMPTY, "house 5 2 9999", "read 5 9999");
    changes(Sample.EMPTY, "house 5 1 1");
    changes(Sample.SOME, "house 4 0 1", "lamp 4 1");
    changes(Sample.SOME, "house 9 1 1", "book 9 1");
    changes(Sample.SOME, "house 9 2 3", "read 9 3");
    changes(Sample.FULL, "house 7 0 0", "lamp 7 0");
    changes(Sample.FULL, "house 7 1 0", "book 7 0");
    changes(Sample.FULL, "house 7 2 0", "read 7 0");
    changes(Sample.EMPTY, "dry 9", "dry 9");
    changes(Sample.EMPTY, "dry 2");
    changes(Sample.SOME, "dry 0", "dry 0");
    changes(Sample.FULL, "dry 8", "dry 8");
  }

  private static void sneezers() {
    changes(Sample.EMPTY, "sneezer 4 7", "sneezers 1", "kind 0 4", "house 0 7", "faces 0 1", "cold 0 20", "tickle 0 0", "gone 0 0");
    changes(Sample.SOME, "sneezer 3 11", "sneezers 4", "kind 3 3", "house 3 11", "faces 3 1", "cold 3 20", "tickle 3 0", "gone 3 0");
    changes(Sample.SOME, "set 1 1 9", "house 1 9");
    changes(Sample.SOME, "set 1 2 1", "faces 1 1");
    changes(Sample.SOME, "set 0 2 1");
    changes(Sample.SOME, "set 2 3 99", "cold 2 99");
    changes(Sample.SOME, "set 2 4 99", "tickle 2 99");
    changes(Sample.SOME, "set 0 5 9999", "gone 0 9999");
    changes(Sample.FULL, "set 7 1 0", "house 7 0");
    changes(Sample.FULL, "set 7 2 0", "faces 7 0");
    changes(Sample.FULL, "set 7 3 0", "cold 7 0");
    changes(Sample.FULL, "set 7 4 0", "tickle 7 0");
    changes(Sample.FULL, "set 7 5 0", "gone 7 0");
    changes(Sample.SOME, "turn 1 4", "kind 1 4");
    changes(Sample.SOME, "turn 1 2");
    changes(Sample.FULL, "turn 7 5", "kind 7 5");
  }

  /** Nobody is there: only MINUTE goes; and what burns is read. */
  private static void minutes() {
    changes(Sample.EMPTY, "minutes 1", "minute 1");
    changes(Sample.EMPTY, "minutes 100", "minute 100");
    only(Sample.SOME, "minutes 9", "minute", "lamp", "read", "cold", "tickle", "gone");
    only(Sample.FULL, "minutes 9", "minute", "lamp", "cold", "tickle");
  }

  /** Nothing but facts of these first words is changed, and some of each of them are. */
  private static void only(Sample sample, String call, String... words) {
    Set<String> changed = new TreeSet<>();
    for (String change : Facts.after(sample, call).changesSince(Facts.after(sample))) {
      changed.add(change.substring(0, change.indexOf(' ')));
    }
    check.holds(call + " (" + sample + ") changes " + changed + ", which", changed.equals(Set.of(words)));
  }

  private static void text() {
    changes(Sample.EMPTY, "feed 32 1", "bytes 1", "text -2");
    changes(Sample.SOME, "feed 32 1", "bytes 25");
    changes(Sample.SOME, "feed 59 1", "bytes 25", "text -26", "text dry is no more", "text lamp 2 is no more",
        "text kind is no more", "text house is no more");
    changes(Sample.EMPTY, "wipe");
    changes(Sample.SOME, "wipe", "bytes 0", "text -1", "text dry is no more", "text lamp 2 is no more", "text kind is no more",
        "text house is no more");
    changes(Sample.FULL, "wipe", "bytes 0", "text -1", "text open is no more", "text lamp 11 is no more");
    // An empty TAPE is a FAULT, and no finding.
    changes(Sample.EMPTY, "winter");
    changes(Sample.SOME, "winter", "dry 3", "lamp 2 2", "sneezers 4", "kind 3 1", "house 3 11", "faces 3 1", "cold 3 20",
        "tickle 3 0", "gone 3 0", "bytes 0", "text -1", "text dry is no more", "text lamp 2 is no more", "text kind is no more",
        "text house is no more");
    Set<String> due = new TreeSet<>(Set.of("lamp 11 7", "bytes 0", "text -1", "text open is no more", "text lamp 11 is no more"));
    for (int h = 0; h < 12; h++) {
      due.add("book " + h + " 0");
    }
    changes(Sample.FULL, "winter", due.toArray(new String[0]));
    faults();
  }

  /** "With a FAULT nothing changes but that THE TAPE is empty; no finding." */
  private static void faults() {
    Set<String> is = Facts.after(Sample.SOME, "feed 59 1", "winter").changesSince(Facts.after(Sample.SOME, "wipe"));
    check.holds("26 a FAULT at the end of some ITEMS changes " + is + ", which", is.isEmpty());
    is = Facts.after(Sample.SOME, "sneezer 0 0", "sneezer 0 0", "sneezer 0 0", "sneezer 0 0", "sneezer 0 0", "winter")
        .changesSince(Facts.after(Sample.SOME, "sneezer 0 0", "sneezer 0 0", "sneezer 0 0", "sneezer 0 0", "sneezer 0 0", "wipe"));
    check.holds("26 a 9th changes " + is + ", which", is.isEmpty());
  }

  private static void sheets() {
    changes(Sample.EMPTY, "sheet 2 16 2", "bits 2 16", "size 2 2", "number 2 0 0", "number 2 1 0");
    changes(Sample.EMPTY, "sheet 2 0 40");
    // The three numbers of 8 bits were -7, 0, 20.
    changes(Sample.SOME, "sheet 0 8 3", "number 0 0 0", "number 0 2 0");
    changes(Sample.SOME, "sheet 0 64 2", "bits 0 64", "size 0 2", "number 0 0 0", "number 0 2 is no more");
    changes(Sample.SOME, "sheet 0 8 4", "size 0 4", "number 0 0 0", "number 0 2 0", "number 0 3 0");
    changes(Sample.SOME, "sheet 1 0 5", "bits 1 0", "size 1 is no more", "number 1 0 is no more", "number 1 1 is no more");
    changes(Sample.SOME, "write 0 1 5", "number 0 1 5");
    changes(Sample.SOME, "write 1 0 -1", "number 1 0 -1");
    changes(Sample.SOME, "write 2 3 " + Long.MAX_VALUE, "number 2 3 " + Long.MAX_VALUE);
    changes(Sample.SOME, "write 2 3 77");
    changes(Sample.FULL, "write 3 39 0", "number 3 39 0");
  }

  /** Those of 64 bits are 0, the least of all, 0, 77. */
  private static void copies() {
    changes(Sample.SOME, "copy 2 1 2 0 3", "number 2 0 " + Long.MIN_VALUE, "number 2 1 0", "number 2 2 77");
    changes(Sample.SOME, "copy 2 0 2 1 3", "number 2 1 0", "number 2 2 " + Long.MIN_VALUE, "number 2 3 0");
    changes(Sample.SOME, "copy 2 0 2 0 4");
    changes(Sample.SOME, "copy 0 0 0 3 0");
    changes(Sample.FULL, "copy 2 38 3 1 2", "number 3 2 -3");
    changes(Sample.FULL, "copy 3 0 2 39 1", "number 2 39 13");
  }

  private static void fromAndToTheStreet() {
    // -7, 0, 20: the first is no COLD, the last is what it has.
    changes(Sample.SOME, "lays 0", "cold 1 0");
    changes(Sample.SOME, "lays 1", "cold 1 0");
    changes(Sample.SOME, "lays 2", "cold 0 0", "cold 2 0");
    changes(Sample.FULL, "lays 0", "cold 0 10", "cold 1 0", "cold 2 0", "cold 3 0", "cold 4 0", "cold 5 0", "cold 6 0", "cold 7 0");
    SneezeLights x = Sample.SOME.made();
    changes(Sample.SOME, "book 0 0", "number 0 0 " + x.on(0, 0, 1), "number 0 1 " + x.on(0, 1, 1), "number 0 2 " + x.on(0, 2, 1));
    changes(Sample.SOME, "book 1 0", "number 1 0 " + x.on(0, 0, 1), "number 1 1 " + x.on(0, 1, 1));
  }

  private static void images() {
    for (Sample sample : Sample.values()) {
      Facts made = Facts.after(sample);
      Set<String> is = Facts.after(sample, "image", "tear").changesSince(Facts.after(sample, "tear"));
      check.holds("33 image (" + sample + ") changes " + is + ", which", is.isEmpty());
      is = Facts.after(sample, "tear").changesSince(made);
      is.removeIf(change -> change.startsWith("image "));
      check.holds("35 tear (" + sample + ") changes " + is + ", which", is.isEmpty());
      is = Facts.after(sample, "image", "undo").changesSince(Facts.after(sample, "image"));
      check.holds("34 undo of what is (" + sample + ") changes " + is + ", which", is.isEmpty());
      // What came after the image is taken back; what section 1 doesn't tell is not.
      is = Facts.after(sample, "image", "dry 6", "minutes 7", "house 3 1 0", "house 3 2 8", "lays 0", "sneezer 1 1", "turn 0 2",
          "set 0 1 3", "set 0 2 0", "set 0 5 1", "undo").changesSince(Facts.after(sample, "image"));
      is.removeIf(change -> change.startsWith("status"));
      check.holds("34 undo (" + sample + ") leaves " + is + ", which", is.isEmpty());
    }
    is("34 undo keeps what is on sheets and THE TAPE", Facts.after(Sample.SOME, "image", "write 0 1 5", "feed 32 1", "sheet 3 8 1", "undo")
        .changesSince(Facts.after(Sample.SOME, "image")), "number 0 1 5", "bytes 25", "bits 3 8", "size 3 1", "number 3 0 0");
    // SOME's image is its street of four MINUTES before, with two there.
    only(Sample.SOME, "undo", "minute", "lamp", "read", "cold", "tickle", "gone", "sneezers", "kind", "house", "faces");
  }

  private static void is(String what, Set<String> is, String... due) {
    check.holds(what + ": changes are " + is + ", which", is.equals(Set.of(due)));
  }
}
