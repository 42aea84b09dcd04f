import java.util.Map;
import java.util.Set;
import java.util.TreeMap;
import java.util.TreeSet;

/** All that an object holds, as far as calls tell it: each number by a name, as "lamp 3" or "image cold 0". */
final class Facts {
  private static final String[] OF_HOUSE = {"lamp", "book", "read"};
  private static final String[] OF_SNEEZER = {"kind", "house", "faces", "cold", "tickle", "gone"};
  private static final long WIDE = 0x123456789abcdefL;

  private final Map<String, Long> facts = new TreeMap<>();

  private Facts() {
  }

  /** What a sample holds after calls. Some looks change what they look at, so each has an object of its own. */
  static Facts after(Sample sample, String... calls) {
    Facts all = new Facts();
    for (int look = 0; look < 4; look++) {
      SneezeLights x = sample.made();
      for (String call : calls) {
        Calls.call(x, call);
      }
      switch (look) {
        case 0: all.counts(x); all.street("", x); break;
        case 1: all.sheets(x); break;
        case 2: all.text(x, sample); break;
        default: all.image(x); break;
      }
    }
    return all;
  }

  /** The facts that are not as they were, with what they are now. */
  Set<String> changesSince(Facts before) {
    Set<String> names = new TreeSet<>(facts.keySet());
    names.addAll(before.facts.keySet());
    Set<String> changes = new TreeSet<>();
    for (String name : names) {
      Long is = facts.get(name);
      if (is == null) {
        changes.add(name + " is no more");
      } else if (!is.equals(before.facts.get(name))) {
        changes.add(name + " " + is);
      }
    }
    return changes;
  }

  private void put(String name, long v) {
    facts.put(name, v);
  }

  private void counts(SneezeLights x) {
    for (int which = -1; which <= 6; which++) {
      put("status " + which, x.status(which));
    }
    put("bytes", x.count(1));
  }

  private void street(String whose, SneezeLights x) {
    put(whose + "minute", x.now(0));
    put(whose + "dry", x.now(1));
    for (int h = 0; h < 12; h++) {
      for (int what = 0; what < OF_HOUSE.length; what++) {
        put(whose + OF_HOUSE[what] + " " + h, x.houseOf(h, what));
      }
    }
    put(whose + "sneezers", x.count(0));
    for (int i = 0; i < x.count(0); i++) {
      for (int what = 0; what < OF_SNEEZER.length; what++) {
        put(whose + OF_SNEEZER[what] + " " + i, x.of(i, what));
      }
    }
  }

  private void sheets(SneezeLights x) {
    for (int s = 0; s < 4; s++) {
      int size = 0;
      long was = x.write(s, 0, WIDE);
      if (was == Check.MISSING) {
        put("bits " + s, 0);
        continue;
      }
      while (was != Check.BEYOND) {
        put("number " + s + " " + size, was);
        size++;
        was = x.write(s, size, WIDE);
      }
      put("size " + s, size);
      // A sheet without numbers doesn't show its bits by itself.
      if (size > 0) {
        long cut = x.write(s, 0, 0);
        put("bits " + s, cut == WIDE ? 64 : cut == (short) WIDE ? 16 : 8);
      }
    }
  }

  /** What THE TAPE tells: of the sample's own text what it says of the street, whatever that was. */
  private void text(SneezeLights x, Sample sample) {
    int items = x.winter();
    put("text", items);
    if (items > 0 && sample == Sample.SOME) {
      put("text dry", x.now(1));
      put("text lamp 2", x.houseOf(2, 0));
      put("text kind", x.of(x.count(0) - 1, 0));
      put("text house", x.of(x.count(0) - 1, 1));
    } else if (items > 0) {
      put("text open", x.now(3));
      put("text lamp 11", x.houseOf(11, 0));
    }
  }

  private void image(SneezeLights x) {
    int ones = x.undo();
    put("image", ones);
    if (ones != Check.NONE) {
      street("image ", x);
    }
  }
}
