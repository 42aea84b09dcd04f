/** A street of houses whose lamps are lit by sneezes; ../shared/DOC.md says what each call answers. */
public final class SneezeLights {
  private static final int BEYOND = -1000000001;
  private static final int FULL = -1000000002;
  private static final int KIND = -1000000003;
  private static final int NONE = -1000000004;
  private static final int STATE = -1000000005;
  private static final int MISSING = -1000000006;
  private static final int SIZE = -1000000007;
  private static final int FINDINGS = 7;

  private static final int SNEEZER = 0;
  private static final int BARON = 1;
  private static final int CHILD = 2;
  private static final int DOCTOR = 3;
  private static final int BISHOP = 4;
  private static final int BABE = 5;
  private static final int KINDS = 6;

  private static final int HOUSES = 12;
  private static final int SNEEZERS = 8;
  private static final int TAPE_BYTES = 120;
  private static final int SHEETS = 4;
  private static final int SHEET_NUMBERS = 40;

  private static final int BY_FEATHER = 0;
  private static final int BY_SEAT = 1;
  private static final int BY_KIND = 2;
  private static final int BY_BOOK = 3;

  private static final int FIRST_DRY = 2;
  private static final int FIRST_COLD = 20;
  private static final int NORTH = 1;
  private static final int SOUTH = 0;

  private static final int MOST_MINUTE = 99999;
  private static final int MOST_DRY = 9;
  private static final int MOST = 99;
  private static final int MOST_COUNTED = 9999;
  private static final int MOST_WANTED = 99999;
  private static final int MOST_AT_ONCE = 100;
  private static final int FARTHEST = 200;
  private static final int FARTHEST_BEST = 60;

  private final Street street = new Street();
  private final Street trial = new Street();
  private final Street kept = new Street();
  private final Tape tape = new Tape();
  private final Winter text = new Winter();
  private final Sheets sheets = new Sheets();
  private final int[] findings = new int[FINDINGS];
  private boolean isKept = false;

  public SneezeLights() {
  }

  // ---- the street

  public int house(int house, int what, int v) {
    if (!isHouse(house) || !within(what, 0, 2) || !within(v, 0, mostOfHouse(what))) {
      return tell(BEYOND);
    }
    int[] row = street.houseRow(what);
    int was = row[house];
    row[house] = v;
    return was;
  }

  public int houseOf(int house, int what) {
    if (!isHouse(house) || !within(what, 0, 3)) {
      return tell(BEYOND);
    }
    return what == 3 ? street.whoIsAt(house) : street.houseRow(what)[house];
  }

  public int dry(int v) {
    if (!within(v, 0, MOST_DRY)) {
      return tell(BEYOND);
    }
    int was = street.dryness;
    street.dryness = v;
    return was;
  }

  public int now(int what) {
    switch (what) {
      case 0: return street.minute;
      case 1: return street.dryness;
      case 2: return street.burning();
      case 3: return street.openBooks();
      case 4: return street.ready();
      case 5: return street.coldOfAll();
      case 6: return street.readOfAll();
      default: return tell(BEYOND);
    }
  }

  // ---- sneezers

  public int sneezer(int kind, int house) {
    if (!isKind(kind) || !isHouse(house)) {
      return tell(BEYOND);
    }
    if (street.sneezers >= SNEEZERS) {
      return tell(FULL);
    }
    return street.addOne(kind, house);
  }

  public int of(int sneezer, int what) {
    if (!isThere(sneezer)) {
      return tell(BEYOND);
    }
    switch (what) {
      case 0: return street.kinds[sneezer];
      case 1: return street.at[sneezer];
      case 2: return street.faces[sneezer];
      case 3: return street.colds[sneezer];
      case 4: return street.tickle[sneezer];
      case 5: return street.goneOff[sneezer];
      case 6: return street.ticklesOf(sneezer);
      case 7: return street.holdsOf(sneezer);
      case 8: return street.blowsOf(sneezer);
      case 9: return street.healsOf(sneezer);
      default: return tell(BEYOND);
    }
  }

  public int set(int sneezer, int what, int v) {
    if (!isThere(sneezer) || !within(what, 1, 5) || !within(v, 0, mostOfSneezer(what))) {
      return tell(BEYOND);
    }
    int[] row = street.sneezerRow(what);
    int was = row[sneezer];
    row[sneezer] = v;
    return was;
  }

  public int turn(int sneezer, int kind) {
    if (!isThere(sneezer) || !isKind(kind)) {
      return tell(BEYOND);
    }
    int was = street.kinds[sneezer];
    street.kinds[sneezer] = kind;
    return was;
  }

  public int as(int sneezer, int kind) {
    if (!isThere(sneezer) || !isKind(kind)) {
      return tell(BEYOND);
    }
    if (!isUnder(street.kinds[sneezer], kind)) {
      return tell(KIND);
    }
    return street.colds[sneezer];
  }

  // ---- minutes

  public int minutes(int n) {
    if (!within(n, 1, MOST_AT_ONCE)) {
      return tell(BEYOND);
    }
    if (street.minute > MOST_MINUTE - n) {
      return tell(STATE);
    }
    street.goMinutes(n);
    return street.burning();
  }

  public int on(int sneezer, int n, int what) {
    if (!isThere(sneezer) || !within(n, 0, FARTHEST) || !within(what, 0, 2)) {
      return tell(BEYOND);
    }
    startTrial();
    trial.goMinutes(n);
    // COLD, TICKLE and GONE OFF stand in the same order in set().
    return trial.sneezerRow(what + 3)[sneezer];
  }

  public int then(int house, int n, int what) {
    if (!isHouse(house) || !within(n, 0, FARTHEST) || !within(what, 0, 1)) {
      return tell(BEYOND);
    }
    startTrial();
    trial.goMinutes(n);
    return what == 0 ? trial.lamps[house] : trial.minutesRead[house];
  }

  public int lit(int house, int v) {
    if (!isHouse(house) || !within(v, 0, 1)) {
      return tell(BEYOND);
    }
    startTrial();
    for (int n = 0; n <= FARTHEST; n++) {
      if (trial.burns(house) == (v == 1)) {
        return n;
      }
      trial.goMinute();
    }
    return tell(NONE);
  }

  public int goes(int sneezer) {
    if (!isThere(sneezer)) {
      return tell(BEYOND);
    }
    startTrial();
    for (int n = 1; n <= FARTHEST; n++) {
      trial.goMinute();
      // GONE OFF is held to its most, so the count can't tell it.
      if (isIn(trial.wentOff, sneezer)) {
        return n;
      }
    }
    return tell(NONE);
  }

  public int well() {
    startTrial();
    for (int n = 0; n <= FARTHEST; n++) {
      if (trial.coldOfAll() == 0) {
        return n;
      }
      trial.goMinute();
    }
    return tell(NONE);
  }

  // ---- what is best

  public int feather(int n) {
    if (!within(n, 1, FARTHEST_BEST)) {
      return tell(BEYOND);
    }
    if (street.sneezers == 0) {
      return tell(NONE);
    }
    return brightest(BY_FEATHER, street.sneezers, 0, n);
  }

  public int seat(int sneezer, int n) {
    if (!isThere(sneezer) || !within(n, 1, FARTHEST_BEST)) {
      return tell(BEYOND);
    }
    return brightest(BY_SEAT, 2 * HOUSES, sneezer, n);
  }

  public int kind(int sneezer, int n) {
    if (!isThere(sneezer) || !within(n, 1, FARTHEST_BEST)) {
      return tell(BEYOND);
    }
    return brightest(BY_KIND, KINDS, sneezer, n);
  }

  public int driest(int n, int v) {
    if (!within(n, 1, FARTHEST_BEST) || !within(v, 0, MOST_WANTED)) {
      return tell(BEYOND);
    }
    for (int d = MOST_DRY; d >= 0; d--) {
      startTrial();
      trial.dryness = d;
      trial.goMinutes(n);
      if (trial.readOfAll() >= v) {
        return d;
      }
    }
    return tell(NONE);
  }

  public int needs(int sneezer, int house, int n) {
    if (!isThere(sneezer) || !isHouse(house) || !within(n, 0, FARTHEST_BEST)) {
      return tell(BEYOND);
    }
    for (int c = 0; c <= MOST; c++) {
      startTrial();
      trial.colds[sneezer] = c;
      trial.goMinutes(n);
      if (trial.burns(house)) {
        return c;
      }
    }
    return tell(NONE);
  }

  public int dear(int n) {
    if (!within(n, 1, FARTHEST_BEST)) {
      return tell(BEYOND);
    }
    if (street.sneezers == 0) {
      return tell(NONE);
    }
    int dearest = 0;
    int least = Integer.MAX_VALUE;
    for (int i = 0; i < street.sneezers; i++) {
      startTrial();
      trial.colds[i] = 0;
      trial.goMinutes(n);
      int light = trial.readOfAll();
      if (light < least) {
        least = light;
        dearest = i;
      }
    }
    return dearest;
  }

  public int open(int n) {
    if (!within(n, 1, FARTHEST_BEST)) {
      return tell(BEYOND);
    }
    return brightest(BY_BOOK, HOUSES, 0, n);
  }

  // ---- the text

  public int feed(int bytes, int n) {
    if (!within(n, 1, 4)) {
      return tell(BEYOND);
    }
    if (tape.length > TAPE_BYTES - n) {
      return tell(FULL);
    }
    for (int i = n - 1; i >= 0; i--) {
      tape.addByte((bytes >> (8 * i)) & 255);
    }
    return tape.length;
  }

  public int wipe() {
    int had = tape.length;
    tape.length = 0;
    return had;
  }

  public int winter() {
    // Told to the trial first: with a FAULT the street must stay as it was.
    startTrial();
    boolean isText = text.tellAll(tape, trial);
    tape.length = 0;
    if (!isText) {
      return -1 - text.start;
    }
    street.become(trial);
    return text.items;
  }

  // ---- sheets

  public int sheet(int s, int bits, int n) {
    if (!isSheet(s) || !isWidth(bits)) {
      return tell(BEYOND);
    }
    if (n < 0) {
      return tell(SIZE);
    }
    if (n > SHEET_NUMBERS) {
      return tell(BEYOND);
    }
    int numbers = bits == 0 ? 0 : n;
    sheets.lay(s, bits, numbers);
    return numbers;
  }

  public long write(int s, int i, long v) {
    if (!isSheet(s)) {
      return tell(BEYOND);
    }
    if (sheets.isMissing(s)) {
      return tell(MISSING);
    }
    if (!within(i, 0, sheets.sizes[s] - 1)) {
      return tell(BEYOND);
    }
    long was = sheets.number(s, i);
    sheets.put(s, i, v);
    return was;
  }

  public int copy(int s, int from, int t, int to, int n) {
    if (!isSheet(s) || !isSheet(t)) {
      return tell(BEYOND);
    }
    if (sheets.isMissing(s) || sheets.isMissing(t)) {
      return tell(MISSING);
    }
    if (sheets.widths[s] != sheets.widths[t]) {
      return tell(KIND);
    }
    if (!sheets.hasRun(s, from, n) || !sheets.hasRun(t, to, n)) {
      return tell(BEYOND);
    }
    sheets.move(s, from, t, to, n);
    return n;
  }

  public int lays(int s) {
    if (!isSheet(s)) {
      return tell(BEYOND);
    }
    if (sheets.isMissing(s)) {
      return tell(MISSING);
    }
    int came = 0;
    int those = Math.min(sheets.sizes[s], street.sneezers);
    for (int i = 0; i < those; i++) {
      long c = sheets.number(s, i);
      if (c >= 0 && c <= MOST) {
        street.colds[i] = (int) c;
        came++;
      }
    }
    return came;
  }

  public int book(int s, int sneezer) {
    if (!isSheet(s)) {
      return tell(BEYOND);
    }
    if (sheets.isMissing(s)) {
      return tell(MISSING);
    }
    if (!isThere(sneezer)) {
      return tell(BEYOND);
    }
    startTrial();
    for (int i = 0; i < sheets.sizes[s]; i++) {
      sheets.put(s, i, trial.tickle[sneezer]);
      trial.goMinute();
    }
    return sheets.sizes[s];
  }

  public int read(int s, int sneezer) {
    if (!isSheet(s)) {
      return tell(BEYOND);
    }
    if (sheets.isMissing(s)) {
      return tell(MISSING);
    }
    if (!isThere(sneezer)) {
      return tell(BEYOND);
    }
    int pairs = 0;
    for (int k = 0; k < KINDS; k++) {
      for (int c = 0; c <= MOST; c++) {
        if (ticklesJustSo(s, sneezer, k, c)) {
          pairs++;
        }
      }
    }
    return pairs;
  }

  // ---- images

  public int image() {
    kept.become(street);
    isKept = true;
    return 1;
  }

  public int undo() {
    if (!isKept) {
      return tell(NONE);
    }
    street.become(kept);
    return street.sneezers;
  }

  public int tear() {
    int was = isKept ? 1 : 0;
    isKept = false;
    return was;
  }

  public int count(int what) {
    switch (what) {
      case 0: return street.sneezers;
      case 1: return tape.length;
      case 2: return street.lampsBurning();
      case 3: return street.goneOffOfAll();
      default: return tell(BEYOND);
    }
  }

  public int status(int which) {
    if (!within(which, -1, FINDINGS - 1)) {
      return tell(BEYOND);
    }
    if (which >= 0) {
      return findings[which];
    }
    int all = 0;
    for (int i = 0; i < FINDINGS; i++) {
      all += findings[i];
    }
    return all;
  }

  // ---- what the calls share

  private int tell(int finding) {
    int which = BEYOND - finding;
    if (within(which, 0, FINDINGS - 1)) {
      findings[which]++;
    }
    return finding;
  }

  private void startTrial() {
    trial.become(street);
  }

  /** The least of the choices 0, 1, .. with which READ of all is most n minutes ahead. */
  private int brightest(int way, int choices, int sneezer, int n) {
    int best = 0;
    int most = -1;
    for (int choice = 0; choice < choices; choice++) {
      startTrial();
      choose(way, choice, sneezer);
      trial.goMinutes(n);
      int light = trial.readOfAll();
      if (light > most) {
        most = light;
        best = choice;
      }
    }
    return best;
  }

  /** Makes one choice in the trial; the sneezer stands for nothing where the choice is whom or which house. */
  private void choose(int way, int choice, int sneezer) {
    switch (way) {
      case BY_FEATHER:
        trial.tickle[choice] = MOST;
        break;
      case BY_SEAT:
        trial.at[sneezer] = choice / 2;
        trial.faces[sneezer] = choice % 2;
        break;
      case BY_KIND:
        trial.kinds[sneezer] = choice;
        break;
      default:
        trial.books[choice] = 1 - trial.books[choice];
        break;
    }
  }

  private boolean ticklesJustSo(int s, int sneezer, int kind, int cold) {
    startTrial();
    trial.kinds[sneezer] = kind;
    trial.colds[sneezer] = cold;
    for (int i = 0; i < sheets.sizes[s]; i++) {
      if (sheets.number(s, i) != trial.tickle[sneezer]) {
        return false;
      }
      trial.goMinute();
    }
    return true;
  }

  private boolean isThere(int sneezer) {
    return within(sneezer, 0, street.sneezers - 1);
  }

  private static boolean within(int v, int least, int most) {
    return v >= least && v <= most;
  }

  private static boolean isHouse(int house) {
    return house >= 0 && house < HOUSES;
  }

  private static boolean isKind(int kind) {
    return within(kind, 0, KINDS - 1);
  }

  private static boolean isSheet(int s) {
    return within(s, 0, SHEETS - 1);
  }

  private static boolean isWidth(int bits) {
    return bits == 0 || bits == 8 || bits == 16 || bits == 64;
  }

  private static boolean isIn(int members, int i) {
    return ((members >> i) & 1) == 1;
  }

  private static boolean isUnder(int kind, int above) {
    return kind == above
        || above == SNEEZER
        || (kind == BISHOP && above == BARON)
        || (kind == BABE && above == CHILD);
  }

  private static int mostOfHouse(int what) {
    switch (what) {
      case 0: return MOST;
      case 1: return 1;
      default: return MOST_COUNTED;
    }
  }

  private static int mostOfSneezer(int what) {
    switch (what) {
      case 1: return HOUSES - 1;
      case 2: return 1;
      case 5: return MOST_COUNTED;
      default: return MOST;
    }
  }

  /** All that section 1 of the document's terms tells, but THE TAPE. */
  private static final class Street {
    int minute = 0;
    int dryness = FIRST_DRY;
    final int[] lamps = new int[HOUSES];
    final int[] books = new int[HOUSES];
    final int[] minutesRead = new int[HOUSES];
    int sneezers = 0;
    final int[] kinds = new int[SNEEZERS];
    final int[] at = new int[SNEEZERS];
    final int[] faces = new int[SNEEZERS];
    final int[] colds = new int[SNEEZERS];
    final int[] tickle = new int[SNEEZERS];
    final int[] goneOff = new int[SNEEZERS];
    /** Who went off in the latest minute, as a set: found anew each minute, so never taken over. */
    int wentOff = 0;

    Street() {
      for (int h = 0; h < HOUSES; h++) {
        books[h] = 1;
      }
    }

    void become(Street other) {
      minute = other.minute;
      dryness = other.dryness;
      System.arraycopy(other.lamps, 0, lamps, 0, HOUSES);
      System.arraycopy(other.books, 0, books, 0, HOUSES);
      System.arraycopy(other.minutesRead, 0, minutesRead, 0, HOUSES);
      sneezers = other.sneezers;
      System.arraycopy(other.kinds, 0, kinds, 0, SNEEZERS);
      System.arraycopy(other.at, 0, at, 0, SNEEZERS);
      System.arraycopy(other.faces, 0, faces, 0, SNEEZERS);
      System.arraycopy(other.colds, 0, colds, 0, SNEEZERS);
      System.arraycopy(other.tickle, 0, tickle, 0, SNEEZERS);
      System.arraycopy(other.goneOff, 0, goneOff, 0, SNEEZERS);
    }

    /** The number of the new one; the caller has seen that there is room. */
    int addOne(int kind, int house) {
      int i = sneezers;
      if (i >= SNEEZERS) {
        return SNEEZERS - 1;
      }
      kinds[i] = kind;
      at[i] = house;
      faces[i] = NORTH;
      colds[i] = FIRST_COLD;
      tickle[i] = 0;
      goneOff[i] = 0;
      sneezers = i + 1;
      return i;
    }

    int[] houseRow(int what) {
      switch (what) {
        case 0: return lamps;
        case 1: return books;
        default: return minutesRead;
      }
    }

    int[] sneezerRow(int what) {
      switch (what) {
        case 1: return at;
        case 2: return faces;
        case 3: return colds;
        case 4: return tickle;
        default: return goneOff;
      }
    }

    boolean burns(int house) {
      return lamps[house] > 0;
    }

    int burning() {
      int members = 0;
      for (int h = 0; h < HOUSES; h++) {
        if (burns(h)) {
          members |= 1 << h;
        }
      }
      return members;
    }

    int lampsBurning() {
      int burn = 0;
      for (int h = 0; h < HOUSES; h++) {
        if (lamps[h] > 0) {
          burn++;
        }
      }
      return burn;
    }

    int openBooks() {
      int members = 0;
      for (int h = 0; h < HOUSES; h++) {
        if (books[h] == 1) {
          members |= 1 << h;
        }
      }
      return members;
    }

    int whoIsAt(int house) {
      int members = 0;
      for (int i = 0; i < sneezers; i++) {
        if (at[i] == house) {
          members |= 1 << i;
        }
      }
      return members;
    }

    int readOfAll() {
      int all = 0;
      for (int h = 0; h < HOUSES; h++) {
        all += minutesRead[h];
      }
      return all;
    }

    int coldOfAll() {
      int all = 0;
      for (int i = 0; i < sneezers; i++) {
        all += colds[i];
      }
      return all;
    }

    int goneOffOfAll() {
      int all = 0;
      for (int i = 0; i < sneezers; i++) {
        all += goneOff[i];
      }
      return all;
    }

    int ticklesOf(int i) {
      int asSneezer = Math.max(0, colds[i] / 4 - dryness);
      int asBaron = asSneezer / 2;
      int asChild = asSneezer + 3;
      switch (kinds[i]) {
        case BARON: return asBaron;
        case CHILD: return asChild;
        case DOCTOR: return 0;
        case BISHOP: return asBaron + 1;
        case BABE: return burns(at[i]) ? 2 * asChild : asChild;
        default: return asSneezer;
      }
    }

    int holdsOf(int i) {
      int asSneezer = 30;
      int asBaron = asSneezer + 60;
      int asChild = asSneezer - 10;
      switch (kinds[i]) {
        case BARON: return asBaron;
        case CHILD: return asChild;
        case DOCTOR: return 99;
        case BISHOP: return asBaron - 5 * lampsBurning();
        case BABE: return asChild;
        default: return asSneezer;
      }
    }

    int blowsOf(int i) {
      int asSneezer = 1 + colds[i] / 25;
      int asBaron = 2 * asSneezer;
      int asChild = 1;
      switch (kinds[i]) {
        case BARON: return asBaron;
        case CHILD: return asChild;
        case DOCTOR: return 0;
        case BISHOP: return asBaron + 1;
        case BABE: return asChild + colds[i] / 50;
        default: return asSneezer;
      }
    }

    int healsOf(int i) {
      int asSneezer = 1;
      int asBaron = 0;
      int asChild = asSneezer + 1;
      switch (kinds[i]) {
        case BARON: return asBaron;
        case CHILD: return asChild;
        case DOCTOR: return 9;
        case BISHOP: return asBaron + dryness / 3;
        case BABE: return asChild - 1;
        default: return asSneezer;
      }
    }

    /** Whose TICKLE is what it HOLDS, or more. */
    int ready() {
      int members = 0;
      for (int i = 0; i < sneezers; i++) {
        if (tickle[i] >= holdsOf(i)) {
          members |= 1 << i;
        }
      }
      return members;
    }

    void goMinutes(int n) {
      for (int m = 0; m < n; m++) {
        goMinute();
      }
    }

    void goMinute() {
      burnLamps();
      tickleAll();
      // Found out of all before anyone goes off: a lamp lit now lowers what a BISHOP HOLDS only later.
      wentOff = ready();
      for (int i = 0; i < sneezers; i++) {
        if (isIn(wentOff, i)) {
          goOff(i);
        }
      }
      healAll();
      minute++;
    }

    private void burnLamps() {
      for (int h = 0; h < HOUSES; h++) {
        if (burns(h)) {
          minutesRead[h] = Math.min(MOST_COUNTED, minutesRead[h] + 1);
          lamps[h]--;
        }
      }
    }

    private void tickleAll() {
      for (int i = 0; i < sneezers; i++) {
        tickle[i] = Math.min(MOST, tickle[i] + ticklesOf(i));
      }
    }

    private void goOff(int i) {
      tickle[i] = 0;
      goneOff[i] = Math.min(MOST_COUNTED, goneOff[i] + 1);
      lightBefore(i);
      giveCold(i);
    }

    private void lightBefore(int i) {
      int step = faces[i] == NORTH ? 1 : -1;
      int light = 5 + colds[i] / 10;
      int blows = blowsOf(i);
      for (int b = 1; b <= blows; b++) {
        int h = at[i] + b * step;
        if (isHouse(h) && books[h] == 1) {
          lamps[h] = Math.max(lamps[h], light);
        }
      }
    }

    private void giveCold(int i) {
      for (int j = 0; j < sneezers; j++) {
        if (j != i && kinds[j] != DOCTOR && Math.abs(at[j] - at[i]) <= 1) {
          colds[j] = Math.min(MOST, colds[j] + 6);
        }
      }
    }

    private void healAll() {
      for (int i = 0; i < sneezers; i++) {
        colds[i] = Math.max(0, colds[i] - healsOf(i));
      }
    }
  }

  /** THE TAPE: bytes of 0 to 255. */
  private static final class Tape {
    private final int[] bytes = new int[TAPE_BYTES];
    int length = 0;

    /** The caller has seen that there is room. */
    void addByte(int b) {
      if (length < TAPE_BYTES) {
        bytes[length] = b;
        length++;
      }
    }

    /** The byte at a place, or -1 behind the last. */
    int byteAt(int place) {
      return place >= 0 && place < length ? bytes[place] : -1;
    }
  }

  /** Reads THE TEXT of a WINTER from a tape, token by token, and tells its items to a street. */
  private static final class Winter {
    private static final int END = 0;
    private static final int WORD = 1;
    private static final int NUMBER = 2;
    private static final int SIGN = 3;
    private static final int OTHER = 4;
    private static final int TOO_GREAT = 1000;

    /** How many items were read. */
    int items = 0;
    /** Where the token in hand begins: the FAULT's place when reading has stopped at it. */
    int start = 0;
    private int end = 0;
    private int token = END;
    private int value = 0;

    /** Whether the tape is a text; if it is not, start is the FAULT. */
    boolean tellAll(Tape tape, Street street) {
      items = 0;
      end = 0;
      step(tape);
      // Each round takes a token at least, so there are never more rounds than bytes.
      for (int round = 0; round <= TAPE_BYTES; round++) {
        if (!tellItem(tape, street)) {
          return false;
        }
        items++;
        if (token == END) {
          return true;
        }
        if (token != SIGN) {
          return false;
        }
        step(tape);
      }
      return false;
    }

    private boolean tellItem(Tape tape, Street street) {
      for (int kind = 0; kind < KINDS; kind++) {
        if (isWord(tape, nameOfKind(kind))) {
          return tellSneezer(tape, street, kind);
        }
      }
      if (isWord(tape, "open")) {
        return tellBook(tape, street, 1);
      }
      if (isWord(tape, "shut")) {
        return tellBook(tape, street, 0);
      }
      if (isWord(tape, "dry")) {
        return tellDry(tape, street);
      }
      if (isWord(tape, "lamp")) {
        return tellLamp(tape, street);
      }
      return false;
    }

    private boolean tellSneezer(Tape tape, Street street, int kind) {
      if (street.sneezers >= SNEEZERS) {
        return false;
      }
      step(tape);
      if (!isNumber(HOUSES - 1)) {
        return false;
      }
      int i = street.addOne(kind, value);
      step(tape);
      if (isWord(tape, "south")) {
        street.faces[i] = SOUTH;
        step(tape);
      }
      return tellPart(tape, "cold", street.colds, i) && tellPart(tape, "tickle", street.tickle, i);
    }

    /** A word with a number, or neither of them. */
    private boolean tellPart(Tape tape, String word, int[] row, int i) {
      if (!isWord(tape, word)) {
        return true;
      }
      step(tape);
      if (!isNumber(MOST)) {
        return false;
      }
      row[i] = value;
      step(tape);
      return true;
    }

    private boolean tellBook(Tape tape, Street street, int book) {
      step(tape);
      if (!isNumber(HOUSES - 1)) {
        return false;
      }
      street.books[value] = book;
      step(tape);
      return true;
    }

    private boolean tellDry(Tape tape, Street street) {
      step(tape);
      if (!isNumber(MOST_DRY)) {
        return false;
      }
      street.dryness = value;
      step(tape);
      return true;
    }

    private boolean tellLamp(Tape tape, Street street) {
      step(tape);
      if (!isNumber(HOUSES - 1)) {
        return false;
      }
      int house = value;
      step(tape);
      if (!isNumber(MOST)) {
        return false;
      }
      street.lamps[house] = value;
      step(tape);
      return true;
    }

    private static String nameOfKind(int kind) {
      switch (kind) {
        case BARON: return "baron";
        case CHILD: return "child";
        case DOCTOR: return "doctor";
        case BISHOP: return "bishop";
        case BABE: return "babe";
        default: return "sneezer";
      }
    }

    private boolean isNumber(int most) {
      return token == NUMBER && within(value, 0, most);
    }

    private boolean isWord(Tape tape, String word) {
      if (token != WORD || end - start != word.length()) {
        return false;
      }
      for (int i = 0; i < word.length(); i++) {
        if (tape.byteAt(start + i) != word.charAt(i)) {
          return false;
        }
      }
      return true;
    }

    /** Takes the next token in hand. */
    private void step(Tape tape) {
      start = end;
      while (start < tape.length && tape.byteAt(start) == ' ') {
        start++;
      }
      end = start;
      int first = tape.byteAt(start);
      if (first < 0) {
        token = END;
      } else if (isLetter(first)) {
        token = WORD;
        while (end < tape.length && isLetter(tape.byteAt(end))) {
          end++;
        }
      } else if (isDigit(first)) {
        token = NUMBER;
        value = 0;
        while (end < tape.length && isDigit(tape.byteAt(end))) {
          // Held at a value that no number may have, so that a long one can't come round to a small one.
          value = Math.min(TOO_GREAT, 10 * value + tape.byteAt(end) - '0');
          end++;
        }
      } else {
        token = first == ';' ? SIGN : OTHER;
        end++;
      }
    }

    private static boolean isLetter(int b) {
      return b >= 'a' && b <= 'z';
    }

    private static boolean isDigit(int b) {
      return b >= '0' && b <= '9';
    }
  }

  /** SHEETS 0 to 3; a MISSING one has a width of 0 bits. */
  private static final class Sheets {
    final int[] widths = new int[SHEETS];
    final int[] sizes = new int[SHEETS];
    private final long[] numbers = new long[SHEETS * SHEET_NUMBERS];

    void lay(int s, int bits, int n) {
      widths[s] = bits;
      sizes[s] = n;
      for (int i = 0; i < SHEET_NUMBERS; i++) {
        numbers[s * SHEET_NUMBERS + i] = 0;
      }
    }

    boolean isMissing(int s) {
      return widths[s] == 0;
    }

    long number(int s, int i) {
      return numbers[s * SHEET_NUMBERS + i];
    }

    void put(int s, int i, long v) {
      numbers[s * SHEET_NUMBERS + i] = cut(v, widths[s]);
    }

    /** Numbers have a sign, as Java's byte, short and long. */
    private static long cut(long v, int bits) {
      switch (bits) {
        case 8: return (byte) v;
        case 16: return (short) v;
        default: return v;
      }
    }

    boolean hasRun(int s, int from, int n) {
      return from >= 0 && n >= 0 && n <= sizes[s] && from <= sizes[s] - n;
    }

    /** The caller has seen that both have the run; one and the same sheet may overlap itself. */
    void move(int s, int from, int t, int to, int n) {
      System.arraycopy(numbers, s * SHEET_NUMBERS + from, numbers, t * SHEET_NUMBERS + to, n);
    }
  }
}
