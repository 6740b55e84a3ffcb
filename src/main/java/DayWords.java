/** Running days put into words: a desk of trains, and the shortest wordings of their days. */
public final class DayWords {
  public static final int NONE = -1;

  private static final int ABSENT = -2;
  private static final int FAULTY = -4;
  private static final int REFUSED = -5;

  private static final int TAPE_BYTES = 600;
  private static final int FEED_BYTES = 20;
  /** No WORDS are longer than also with every DAY: 29 TOKENS of 8 letters, blanks between. */
  private static final int TEXT_BYTES = 300;
  private static final int MOST_DAYS = 28;
  private static final int MOST_FEASTS = 2;
  private static final int MOST_TRAINS = 6;
  private static final int MOST_LINES = 9;
  private static final int MOST_ACTS = 20;
  private static final int MOST_SPANS_ASKED = 4;
  private static final int MOST_ROUTE = 9;
  private static final int MOST_MINUTE = 1439;
  private static final int FARTHEST_SHIFT = 27;
  private static final int WEEK = 7;
  private static final int PATTERNS = 128;
  private static final int DAILY_PATTERN = 127;

  private static final int CANT_STAND = 1;
  private static final int NOT_AS_SAID = 2;
  private static final int TOO_MANY = 3;

  /** The words that no NAME may be, in the order of the kinds DESK .. MO + 6. */
  private static final String KEYWORDS =
      "desk days first feast train at never daily from to not also mo tu we th fr sa su";

  // Kinds of TOKENS: the keywords by their place in KEYWORDS, then all others.
  private static final int DESK = 0;
  private static final int DAYS = 1;
  private static final int FIRST = 2;
  private static final int FEAST = 3;
  private static final int TRAIN = 4;
  private static final int AT = 5;
  private static final int NEVER = 6;
  private static final int DAILY = 7;
  private static final int FROM = 8;
  private static final int TO = 9;
  private static final int NOT = 10;
  private static final int ALSO = 11;
  private static final int MO = 12;
  private static final int KEYWORD_COUNT = 19;
  private static final int OTHER_WORD = 19;
  private static final int NUMBER = 20;
  private static final int SEMICOLON = 21;
  private static final int COLON = 22;
  private static final int DASH = 23;
  private static final int END = 24;
  private static final int NO_TOKEN = 25;
  private static final int GAP = 26;

  private static final int BLANK = 32;
  private static final int LINE_BREAK = 10;

  /** A word of more than 8 letters, in place of its letters. */
  private static final long LONG_WORD = -1L;
  /** Numbers stop growing here, so that no row of digits wraps around into its bounds. */
  private static final long HUGE = 1000000L;

  // What a WORDING has told already, as bits: its next DAY behind the same word costs no word more.
  private static final int NOT_TOLD = 1;
  private static final int ALSO_TOLD = 2;
  private static final int STATES = 4;

  private static final int UNLIMITED = -1;
  private static final int TOO_DEAR = 1000000;

  private final Tape tape;
  private final Reader reader;
  private final Finder finder;
  private final Acts acts;
  private Desk desk;
  /** A DESK is read into this one, so that a FAULT leaves the other as it was. */
  private Desk spare;
  private int deskFault;
  private int deskPlace;
  private boolean wordingTold;
  private int toldDays;
  private int toldTokens;
  private int toldFault;
  private int toldPlace;

  public DayWords() {
    Lexicon lexicon = new Lexicon();
    tape = new Tape();
    reader = new Reader(lexicon);
    acts = new Acts();
    desk = new Desk();
    spare = new Desk();
    finder = new Finder(lexicon, desk);
    deskFault = 0;
    deskPlace = NONE;
    wordingTold = false;
    toldDays = NONE;
    toldTokens = NONE;
    toldFault = 0;
    toldPlace = NONE;
  }

  public int feed(int a, int b, int c, int d, int e) {
    if (tape.size + FEED_BYTES > TAPE_BYTES) {
      return NONE;
    }
    tape.add(a);
    tape.add(b);
    tape.add(c);
    tape.add(d);
    tape.add(e);
    return tape.size;
  }

  public int end(int n) {
    if (n < 0 || n > tape.size) {
      return NONE;
    }
    tape.size = n;
    return n;
  }

  public int desk() {
    boolean good = reader.readDesk(tape, spare);
    tape.size = 0;
    deskFault = reader.fault;
    deskPlace = reader.place;
    if (!good) {
      return FAULTY;
    }
    Desk old = desk;
    desk = spare;
    spare = old;
    finder.work(desk);
    acts.many = 0;
    wordingTold = false;
    return desk.lines;
  }

  public int fault(int what) {
    if (what == 0) {
      return deskFault;
    }
    return what == 1 ? deskPlace : NONE;
  }

  public int count(int what) {
    switch (what) {
      case 0: return desk.period;
      case 1: return desk.first;
      case 2: return desk.feasts;
      case 3: return desk.trains;
      case 4: return acts.many;
      case 5: return desk.lines;
      case 6: return tape.size;
      default: return NONE;
    }
  }

  public int weekday(int day) {
    return isDay(day) ? desk.weekdayOf(day) : ABSENT;
  }

  public int feast(int feast) {
    return feast >= 0 && feast < desk.feasts ? desk.feastDays[feast] : ABSENT;
  }

  public int train(int train, int what) {
    if (!isTrain(train) || what < 0 || what > 1) {
      return ABSENT;
    }
    return what == 0 ? desk.routes[train] : desk.minutes[train];
  }

  public int days(int train) {
    return isTrain(train) ? desk.running[train] : ABSENT;
  }

  public int runs(int train, int day) {
    if (!isTrain(train) || !isDay(day)) {
      return ABSENT;
    }
    return desk.running[train] >> day & 1;
  }

  public int many(int train) {
    return isTrain(train) ? Integer.bitCount(desk.running[train]) : ABSENT;
  }

  public int votes(int train, int weekday) {
    if (!isTrain(train) || weekday < 0 || weekday >= WEEK) {
      return ABSENT;
    }
    return Integer.bitCount(desk.running[train] & desk.patternDays[1 << weekday]);
  }

  public int vote(int train) {
    return isTrain(train) ? votedWeekdays(desk.running[train]) : ABSENT;
  }

  public int strays(int train) {
    if (!isTrain(train)) {
      return ABSENT;
    }
    int running = desk.running[train];
    return Integer.bitCount(running ^ desk.patternDays[votedWeekdays(running)]);
  }

  public int next(int train, int day) {
    if (!isTrain(train) || !isDay(day)) {
      return ABSENT;
    }
    int ahead = desk.running[train] >> day;
    return ahead == 0 ? NONE : day + Integer.numberOfTrailingZeros(ahead);
  }

  public int rest(int train) {
    if (!isTrain(train)) {
      return ABSENT;
    }
    int most = 0;
    int row = 0;
    for (int day = 0; day < desk.period; day++) {
      row = (desk.running[train] >> day & 1) == 0 ? row + 1 : 0;
      most = Math.max(most, row);
    }
    return most;
  }

  public int words(int train) {
    return isTrain(train) ? finder.find(desk.running[train]).tokens : ABSENT;
  }

  public int length(int train) {
    return isTrain(train) ? finder.find(desk.running[train]).size : ABSENT;
  }

  public int sign(int train, int i) {
    if (!isTrain(train) || i < 0) {
      return ABSENT;
    }
    Words found = finder.find(desk.running[train]);
    return i < found.size ? found.text[i] : NONE;
  }

  public long ways(int train) {
    return isTrain(train) ? finder.find(desk.running[train]).alike : ABSENT;
  }

  public int spans(int train) {
    return isTrain(train) ? finder.find(desk.running[train]).parts : ABSENT;
  }

  public int span(int train, int k, int what) {
    if (!isTrain(train) || k < 0 || what < 0 || what > 2) {
      return ABSENT;
    }
    Words found = finder.find(desk.running[train]);
    if (k >= found.parts) {
      return NONE;
    }
    if (what == 0) {
      return found.firsts[k];
    }
    return what == 1 ? found.lasts[k] : found.patterns[k];
  }

  public int nots(int train, int what) {
    if (!isTrain(train) || what < 0 || what > 1) {
      return ABSENT;
    }
    Words found = finder.find(desk.running[train]);
    return what == 0 ? found.notFeasts : found.notDays;
  }

  public int alsos(int train, int what) {
    if (!isTrain(train) || what < 0 || what > 1) {
      return ABSENT;
    }
    Words found = finder.find(desk.running[train]);
    return what == 0 ? found.alsoFeasts : found.alsoDays;
  }

  public int within(int train, int k) {
    if (!isTrain(train) || k < 0 || k > MOST_SPANS_ASKED) {
      return ABSENT;
    }
    return finder.fewest(desk.running[train], k, true);
  }

  public int plain(int train) {
    return isTrain(train) ? finder.fewest(desk.running[train], UNLIMITED, false) : ABSENT;
  }

  public int other(int train, int day) {
    if (!isTrain(train) || !isDay(day)) {
      return ABSENT;
    }
    return finder.fewest(desk.running[train] ^ 1 << day, UNLIMITED, true);
  }

  public int shift(int train, int n) {
    if (!isTrain(train) || n < -FARTHEST_SHIFT || n > FARTHEST_SHIFT) {
      return ABSENT;
    }
    int running = desk.running[train];
    int later = n < 0 ? running >> -n : running << n;
    return finder.fewest(later & desk.allDays(), UNLIMITED, true);
  }

  public int least(int days) {
    if (desk.period == 0 || (days & ~desk.allDays()) != 0) {
      return ABSENT;
    }
    return finder.fewest(days, UNLIMITED, true);
  }

  public int tells() {
    if (desk.period == 0) {
      return ABSENT;
    }
    boolean good = reader.readAlone(tape, desk);
    tape.size = 0;
    wordingTold = true;
    toldDays = good ? reader.wordingDays : NONE;
    toldTokens = good ? reader.wordingTokens : NONE;
    toldFault = reader.fault;
    toldPlace = reader.place;
    return good ? Integer.bitCount(toldDays) : FAULTY;
  }

  public int told(int what) {
    if (!wordingTold) {
      return NONE;
    }
    switch (what) {
      case 0: return toldDays;
      case 1: return toldTokens;
      case 2: return toldFault;
      case 3: return toldPlace;
      default: return NONE;
    }
  }

  public int worse() {
    if (!wordingTold || toldFault != 0) {
      return NONE;
    }
    return toldTokens - finder.fewest(toldDays, UNLIMITED, true);
  }

  public int shares(int train, int other) {
    if (!isTrain(train) || !isTrain(other)) {
      return ABSENT;
    }
    return desk.running[train] & desk.running[other];
  }

  public int same(int train, int other) {
    if (!isTrain(train) || !isTrain(other)) {
      return ABSENT;
    }
    return desk.running[train] == desk.running[other] ? 1 : 0;
  }

  public int join(int train) {
    return isTrain(train) ? desk.leader(train) : ABSENT;
  }

  public int joint(int train) {
    return isTrain(train) ? desk.jointDays(train) : ABSENT;
  }

  public int twice(int train) {
    if (!isTrain(train)) {
      return ABSENT;
    }
    int once = 0;
    int again = 0;
    for (int mate = 0; mate < desk.trains; mate++) {
      if (desk.areMates(train, mate)) {
        again |= once & desk.running[mate];
        once |= desk.running[mate];
      }
    }
    return again;
  }

  public int saved() {
    if (desk.period == 0) {
      return ABSENT;
    }
    int sum = 0;
    for (int train = 0; train < desk.trains; train++) {
      sum += finder.fewest(desk.running[train], UNLIMITED, true);
      if (desk.leader(train) == train) {
        sum -= finder.fewest(desk.jointDays(train), UNLIMITED, true);
      }
    }
    return sum;
  }

  public int crowd(int day) {
    return isDay(day) ? desk.trainsOn(day) : ABSENT;
  }

  public int full() {
    if (desk.period == 0) {
      return ABSENT;
    }
    int fullest = 0;
    int most = 0;
    for (int day = 0; day < desk.period; day++) {
      int trains = Integer.bitCount(desk.trainsOn(day));
      if (trains > most) {
        most = trains;
        fullest = day;
      }
    }
    return fullest;
  }

  public int flips(int train, int day) {
    if (!isTrain(train) || !isDay(day)) {
      return ABSENT;
    }
    if (acts.many >= MOST_ACTS) {
      return REFUSED;
    }
    acts.note(desk);
    desk.running[train] ^= 1 << day;
    return finder.fewest(desk.running[train], UNLIMITED, true);
  }

  public int sets(int train) {
    if (!isTrain(train)) {
      return ABSENT;
    }
    boolean refused = acts.many >= MOST_ACTS;
    boolean good = !refused && reader.readAlone(tape, desk);
    tape.size = 0;
    if (!good) {
      return refused ? REFUSED : FAULTY;
    }
    acts.note(desk);
    desk.running[train] = reader.wordingDays;
    return Integer.bitCount(reader.wordingDays);
  }

  public int merges() {
    if (desk.period == 0) {
      return ABSENT;
    }
    if (acts.many >= MOST_ACTS) {
      return REFUSED;
    }
    acts.note(desk);
    int changed = 0;
    for (int train = 0; train < desk.trains; train++) {
      // The least comes first, so the others still run when its DAYS are joined.
      int merged = desk.leader(train) == train ? desk.jointDays(train) : 0;
      if (merged != desk.running[train]) {
        changed++;
      }
      desk.running[train] = merged;
    }
    return changed;
  }

  public int undo() {
    if (desk.period == 0) {
      return ABSENT;
    }
    if (acts.many == 0) {
      return REFUSED;
    }
    acts.backTo(acts.many - 1, desk);
    return acts.many;
  }

  public int anew() {
    if (desk.period == 0) {
      return ABSENT;
    }
    int there = acts.many;
    if (there > 0) {
      acts.backTo(0, desk);
    }
    return there;
  }

  private boolean isTrain(int train) {
    return train >= 0 && train < desk.trains;
  }

  private boolean isDay(int day) {
    return day >= 0 && day < desk.period;
  }

  private int votedWeekdays(int running) {
    int voted = 0;
    for (int weekday = 0; weekday < WEEK; weekday++) {
      int all = desk.patternDays[1 << weekday];
      if (2 * Integer.bitCount(running & all) > Integer.bitCount(all)) {
        voted |= 1 << weekday;
      }
    }
    return voted;
  }

  /** The weekdays of a pattern with which a row of weekdays one behind the other begins. */
  private static int rowStarts(int pattern) {
    return pattern & ~(pattern << 1);
  }

  /** How many weekdays of a pattern stand one behind the other from this one on. */
  private static int rowSize(int pattern, int weekday) {
    return Integer.numberOfTrailingZeros(~(pattern >> weekday));
  }

  /** The bytes that wait to be read. */
  private static final class Tape {
    final byte[] bytes = new byte[TAPE_BYTES];
    int size = 0;

    void add(int number) {
      for (int shift = 24; shift >= 0 && size < TAPE_BYTES; shift -= 8) {
        bytes[size] = (byte) (number >> shift);
        size++;
      }
    }
  }

  /** The keywords as numbers: a word's letters are the bytes of a long, the last one lowest. */
  private static final class Lexicon {
    final long[] codes = new long[KEYWORD_COUNT];

    Lexicon() {
      int word = 0;
      for (int i = 0; i < KEYWORDS.length() && word < KEYWORD_COUNT; i++) {
        char letter = KEYWORDS.charAt(i);
        if (letter == BLANK) {
          word++;
        } else {
          codes[word] = codes[word] << 8 | letter;
        }
      }
    }

    int kindOf(long code) {
      for (int word = 0; word < KEYWORD_COUNT; word++) {
        if (codes[word] == code) {
          return word;
        }
      }
      return OTHER_WORD;
    }
  }

  /** A period of days, its feasts and trains; without a period there is no DESK. */
  private static final class Desk {
    final int[] patternDays = new int[PATTERNS];
    final long[] names = new long[MOST_FEASTS];
    final int[] feastDays = new int[MOST_FEASTS];
    final int[] routes = new int[MOST_TRAINS];
    final int[] minutes = new int[MOST_TRAINS];
    final int[] running = new int[MOST_TRAINS];
    int period = 0;
    int first = 0;
    int feasts = 0;
    int trains = 0;
    int lines = 0;

    void clear() {
      period = 0;
      first = 0;
      feasts = 0;
      trains = 0;
      lines = 0;
    }

    void openPeriod(int days, int weekday) {
      period = days;
      first = weekday;
      for (int pattern = 1; pattern < PATTERNS; pattern++) {
        int lowest = Integer.numberOfTrailingZeros(pattern);
        int bits = patternDays[pattern & pattern - 1];
        for (int day = (lowest + WEEK - first) % WEEK; day < period; day += WEEK) {
          bits |= 1 << day;
        }
        patternDays[pattern] = bits;
      }
    }

    int weekdayOf(int day) {
      return (first + day) % WEEK;
    }

    int allDays() {
      return (1 << period) - 1;
    }

    int feastNamed(long name) {
      for (int feast = 0; feast < feasts; feast++) {
        if (names[feast] == name) {
          return feast;
        }
      }
      return NONE;
    }

    boolean areMates(int train, int mate) {
      return routes[train] == routes[mate] && minutes[train] == minutes[mate];
    }

    int leader(int train) {
      for (int mate = 0; mate < train; mate++) {
        if (areMates(train, mate)) {
          return mate;
        }
      }
      return train;
    }

    int jointDays(int train) {
      int bits = 0;
      for (int mate = 0; mate < trains; mate++) {
        if (areMates(train, mate)) {
          bits |= running[mate];
        }
      }
      return bits;
    }

    int trainsOn(int day) {
      int bits = 0;
      for (int train = 0; train < trains; train++) {
        bits |= (running[train] >> day & 1) << train;
      }
      return bits;
    }
  }

  /** The acts done, each with the DAYS of all TRAINS ahead of it. */
  private static final class Acts {
    final int[] before = new int[MOST_ACTS * MOST_TRAINS];
    int many = 0;

    void note(Desk desk) {
      if (many < MOST_ACTS) {
        System.arraycopy(desk.running, 0, before, many * MOST_TRAINS, MOST_TRAINS);
        many++;
      }
    }

    void backTo(int act, Desk desk) {
      if (act >= 0 && act < many) {
        System.arraycopy(before, act * MOST_TRAINS, desk.running, 0, MOST_TRAINS);
        many = act;
      }
    }
  }

  /** Reads the TAPE: its TOKENS first, then a DESK or a WORDING of them, up to the first FAULT. */
  private static final class Reader {
    int fault = 0;
    int place = NONE;
    int wordingDays = 0;
    int wordingTokens = 0;
    private final Lexicon lexicon;
    private final int[] kinds = new int[TAPE_BYTES + 1];
    private final int[] places = new int[TAPE_BYTES + 1];
    private final long[] values = new long[TAPE_BYTES + 1];
    private int last = 0;
    private int at = 0;
    private int pattern = 0;
    private int spanFirst = 0;
    private int spanLast = 0;
    private boolean spanOpen = false;
    private int row = 0;

    Reader(Lexicon lexicon) {
      this.lexicon = lexicon;
    }

    boolean readDesk(Tape tape, Desk desk) {
      scan(tape);
      desk.clear();
      // A line more than there may be is always a FAULT, so the bound cuts nothing off.
      for (int line = 0; line <= MOST_LINES && kinds[at] != END; line++) {
        boolean good;
        if (desk.lines == 0) {
          good = readHead(desk);
        } else if (kinds[at] == FEAST) {
          good = readFeast(desk);
        } else if (kinds[at] == TRAIN) {
          good = readTrain(desk);
        } else {
          good = fail(CANT_STAND);
        }
        if (!good || !take(SEMICOLON)) {
          return false;
        }
        desk.lines++;
      }
      return true;
    }

    boolean readAlone(Tape tape, Desk desk) {
      scan(tape);
      return readWording(desk) && take(END);
    }

    private void scan(Tape tape) {
      fault = 0;
      place = NONE;
      at = 0;
      last = NONE;
      int before = GAP;
      for (int i = 0; i < tape.size; i++) {
        int sign = tape.bytes[i];
        int kind = kindOfSign(sign);
        if (kind != GAP) {
          if (kind != before || kind != OTHER_WORD && kind != NUMBER) {
            openToken(kind, i);
          }
          widenToken(kind, sign);
        }
        before = kind;
      }
      openToken(END, tape.size);
      for (int token = 0; token < last; token++) {
        if (kinds[token] == OTHER_WORD) {
          kinds[token] = lexicon.kindOf(values[token]);
        }
      }
    }

    private static int kindOfSign(int sign) {
      if (sign >= 'a' && sign <= 'z') {
        return OTHER_WORD;
      }
      if (sign >= '0' && sign <= '9') {
        return NUMBER;
      }
      switch (sign) {
        case BLANK: return GAP;
        case LINE_BREAK: return GAP;
        case ';': return SEMICOLON;
        case ':': return COLON;
        case '-': return DASH;
        default: return NO_TOKEN;
      }
    }

    private void openToken(int kind, int start) {
      if (last < TAPE_BYTES) {
        last++;
        kinds[last] = kind;
        places[last] = start;
        values[last] = 0;
      }
    }

    private void widenToken(int kind, int sign) {
      if (last < 0) {
        return;
      }
      long value = values[last];
      if (kind == NUMBER) {
        values[last] = Math.min(HUGE, value * 10 + (sign - '0'));
      } else if (kind == OTHER_WORD) {
        // Eight letters fill the long, and a long word stays one.
        values[last] = value >> 56 != 0 ? LONG_WORD : value << 8 | sign;
      }
    }

    private boolean fail(int what) {
      fault = what;
      place = places[at];
      return false;
    }

    private void step() {
      if (at < last) {
        at++;
      }
    }

    private boolean take(int kind) {
      if (kinds[at] != kind) {
        return fail(CANT_STAND);
      }
      step();
      return true;
    }

    /** A number within bounds can stand here; the caller reads it and steps on. */
    private boolean seeNumber(int least, int most) {
      if (kinds[at] != NUMBER) {
        return fail(CANT_STAND);
      }
      return values[at] >= least && values[at] <= most || fail(NOT_AS_SAID);
    }

    private boolean isWeekday() {
      return kinds[at] >= MO && kinds[at] < MO + WEEK;
    }

    private boolean readHead(Desk desk) {
      if (!take(DESK) || !take(DAYS) || !seeNumber(1, MOST_DAYS)) {
        return false;
      }
      int days = (int) values[at];
      step();
      if (!take(FIRST)) {
        return false;
      }
      if (!isWeekday()) {
        return fail(CANT_STAND);
      }
      desk.openPeriod(days, kinds[at] - MO);
      step();
      return true;
    }

    private boolean readFeast(Desk desk) {
      int feast = desk.feasts;
      if (feast >= MOST_FEASTS) {
        return fail(TOO_MANY);
      }
      step();
      if (kinds[at] > OTHER_WORD) {
        return fail(CANT_STAND);
      }
      long name = values[at];
      if (kinds[at] != OTHER_WORD || name == LONG_WORD || desk.feastNamed(name) != NONE) {
        return fail(NOT_AS_SAID);
      }
      step();
      if (!readFeastDays(desk)) {
        return false;
      }
      desk.names[feast] = name;
      desk.feastDays[feast] = row;
      desk.feasts++;
      return true;
    }

    private boolean readFeastDays(Desk desk) {
      row = 0;
      for (int entry = 0; entry <= desk.period && (entry == 0 || kinds[at] == NUMBER); entry++) {
        if (!seeNumber(0, desk.period - 1)) {
          return false;
        }
        int bit = 1 << (int) values[at];
        if ((row & bit) != 0) {
          return fail(NOT_AS_SAID);
        }
        row |= bit;
        step();
      }
      return true;
    }

    private boolean readTrain(Desk desk) {
      int train = desk.trains;
      if (train >= MOST_TRAINS) {
        return fail(TOO_MANY);
      }
      step();
      if (!seeNumber(0, MOST_ROUTE)) {
        return false;
      }
      desk.routes[train] = (int) values[at];
      step();
      if (!take(AT) || !seeNumber(0, MOST_MINUTE)) {
        return false;
      }
      desk.minutes[train] = (int) values[at];
      step();
      if (!take(COLON) || !readWording(desk)) {
        return false;
      }
      desk.running[train] = wordingDays;
      desk.trains++;
      return true;
    }

    private boolean readWording(Desk desk) {
      int start = at;
      wordingDays = 0;
      if (kinds[at] == NEVER) {
        step();
      } else if (!readSpans(desk) || !readExceptions(desk)) {
        return false;
      } else if (at == start) {
        return fail(CANT_STAND);
      }
      wordingTokens = at - start;
      return true;
    }

    private boolean readSpans(Desk desk) {
      spanLast = NONE;
      spanOpen = true;
      for (int k = 0; k <= desk.period && spanOpen && (isWeekday() || kinds[at] == DAILY); k++) {
        if (!readPattern() || !readBounds(desk)) {
          return false;
        }
        int days = (1 << spanLast + 1) - (1 << spanFirst);
        wordingDays |= days & desk.patternDays[pattern];
      }
      return true;
    }

    private boolean readPattern() {
      if (kinds[at] == DAILY) {
        pattern = DAILY_PATTERN;
        step();
        return true;
      }
      pattern = 0;
      int behind = 0;
      for (int item = 0; item <= WEEK && isWeekday(); item++) {
        int first = kinds[at] - MO;
        if (first < behind) {
          return fail(NOT_AS_SAID);
        }
        step();
        int until = first;
        if (kinds[at] == DASH) {
          step();
          if (!isWeekday()) {
            return fail(CANT_STAND);
          }
          until = kinds[at] - MO;
          if (until <= first) {
            return fail(NOT_AS_SAID);
          }
          step();
        }
        behind = until + 1;
        pattern |= (1 << behind) - (1 << first);
      }
      return true;
    }

    /** Reads from and to of a SPAN; spanLast is that of the SPAN ahead of it, or NONE. */
    private boolean readBounds(Desk desk) {
      int behind = spanLast + 1;
      spanFirst = 0;
      if (kinds[at] == FROM) {
        step();
        if (!seeNumber(behind, desk.period - 1)) {
          return false;
        }
        spanFirst = (int) values[at];
        step();
      } else if (behind > 0) {
        return fail(CANT_STAND);
      }
      spanLast = desk.period - 1;
      spanOpen = kinds[at] == TO;
      if (spanOpen) {
        step();
        if (!seeNumber(spanFirst, desk.period - 1)) {
          return false;
        }
        spanLast = (int) values[at];
        step();
      }
      return true;
    }

    private boolean readExceptions(Desk desk) {
      if (kinds[at] == NOT) {
        step();
        if (!readEntries(desk)) {
          return false;
        }
        wordingDays &= ~row;
      }
      if (kinds[at] == ALSO) {
        step();
        if (!readEntries(desk)) {
          return false;
        }
        wordingDays |= row;
      }
      return true;
    }

    private boolean readEntries(Desk desk) {
      row = 0;
      int toldFeasts = 0;
      int toldDays = 0;
      int most = MOST_DAYS + MOST_FEASTS;
      for (int entry = 0; entry <= most; entry++) {
        int feast = kinds[at] == OTHER_WORD ? desk.feastNamed(values[at]) : NONE;
        if (feast != NONE) {
          if ((toldFeasts >> feast & 1) != 0) {
            return fail(NOT_AS_SAID);
          }
          toldFeasts |= 1 << feast;
          row |= desk.feastDays[feast];
        } else if (kinds[at] == NUMBER) {
          if (!seeNumber(0, desk.period - 1)) {
            return false;
          }
          int bit = 1 << (int) values[at];
          if ((toldDays & bit) != 0) {
            return fail(NOT_AS_SAID);
          }
          toldDays |= bit;
          row |= bit;
        } else {
          return entry > 0 || fail(CANT_STAND);
        }
        step();
      }
      return true;
    }
  }

  /** WORDS (III) of DAYS, and the signs that they are written by. */
  private static final class Words {
    final int[] firsts = new int[MOST_DAYS];
    final int[] lasts = new int[MOST_DAYS];
    final int[] patterns = new int[MOST_DAYS];
    final byte[] text = new byte[TEXT_BYTES];
    boolean known = false;
    int target = 0;
    int tokens = 0;
    long alike = 0;
    int parts = 0;
    int notFeasts = 0;
    int notDays = 0;
    int alsoFeasts = 0;
    int alsoDays = 0;
    int size = 0;

    void clear(int days) {
      known = true;
      target = days;
      parts = 0;
      notFeasts = 0;
      notDays = 0;
      alsoFeasts = 0;
      alsoDays = 0;
      size = 0;
    }

    void addSpan(int first, int last, int pattern) {
      if (parts < MOST_DAYS) {
        firsts[parts] = first;
        lasts[parts] = last;
        patterns[parts] = pattern;
        parts++;
      }
    }
  }

  /** Writes WORDS TOKEN by TOKEN. */
  private static final class Writer {
    private final Lexicon lexicon;

    Writer(Lexicon lexicon) {
      this.lexicon = lexicon;
    }

    void write(Words words, Desk desk) {
      words.size = 0;
      if (words.target == 0) {
        putWord(words, lexicon.codes[NEVER]);
      }
      for (int k = 0; k < words.parts; k++) {
        writePattern(words, words.patterns[k]);
        if (words.firsts[k] > 0) {
          putWord(words, lexicon.codes[FROM]);
          putNumber(words, words.firsts[k]);
        }
        if (words.lasts[k] < desk.period - 1) {
          putWord(words, lexicon.codes[TO]);
          putNumber(words, words.lasts[k]);
        }
      }
      writeEntries(words, desk, NOT);
      writeEntries(words, desk, ALSO);
    }

    private void writePattern(Words words, int pattern) {
      if (pattern == DAILY_PATTERN) {
        putWord(words, lexicon.codes[DAILY]);
        return;
      }
      for (int weekday = 0; weekday < WEEK; weekday++) {
        if ((rowStarts(pattern) >> weekday & 1) != 0) {
          int size = rowSize(pattern, weekday);
          putWord(words, lexicon.codes[MO + weekday]);
          if (size > 2) {
            putWord(words, '-');
          }
          if (size > 1) {
            putWord(words, lexicon.codes[MO + weekday + size - 1]);
          }
        }
      }
    }

    private void writeEntries(Words words, Desk desk, int word) {
      int feasts = word == NOT ? words.notFeasts : words.alsoFeasts;
      int days = word == NOT ? words.notDays : words.alsoDays;
      if (feasts == 0 && days == 0) {
        return;
      }
      putWord(words, lexicon.codes[word]);
      for (int feast = 0; feast < desk.feasts; feast++) {
        if ((feasts >> feast & 1) != 0) {
          putWord(words, desk.names[feast]);
        }
      }
      for (int day = 0; day < desk.period; day++) {
        if ((days >> day & 1) != 0) {
          putNumber(words, day);
        }
      }
    }

    private void putWord(Words words, long code) {
      putBlank(words);
      for (int shift = 56; shift >= 0; shift -= 8) {
        int sign = (int) (code >> shift & 255);
        if (sign != 0) {
          putSign(words, sign);
        }
      }
    }

    private void putNumber(Words words, int number) {
      putBlank(words);
      if (number > 9) {
        putSign(words, '0' + number / 10);
      }
      putSign(words, '0' + number % 10);
    }

    private void putBlank(Words words) {
      if (words.size > 0) {
        putSign(words, BLANK);
      }
    }

    private void putSign(Words words, int sign) {
      if (words.size < words.text.length) {
        words.text[words.size] = (byte) sign;
        words.size++;
      }
    }
  }

  /**
   * For each DAY and each state (what is told already) the fewest TOKENS that the rest of the
   * PERIOD takes from there on, and by how many ways.
   */
  private static final class Row {
    final int[] tokens = new int[(MOST_DAYS + 1) * STATES];
    final long[] alike = new long[(MOST_DAYS + 1) * STATES];
  }

  /** Finds the shortest WORDINGS of DAYS of a DESK. */
  private static final class Finder {
    private static final int DEAREST_PATTERN = 6;

    private final Writer writer;
    private final Words words = new Words();
    private final int[] patternTokens = new int[PATTERNS];
    /** All patterns, those of fewer TOKENS first; cheaper[t]: how many have t at most. */
    private final int[] order = new int[PATTERNS];
    private final int[] cheaper = new int[DEAREST_PATTERN + 1];
    private final Row[] rows = new Row[MOST_SPANS_ASKED + 1];
    private final int[] leaning = new int[WEEK];
    private Desk desk;
    private int target = 0;
    /** DAYS of FEASTS behind not: no SPAN shows them. */
    private int hidden = 0;
    /** DAYS to be told that no FEAST behind also has. */
    private int wanted = 0;
    private int startState = 0;
    private int bestTokens = 0;
    private long bestAlike = 0;
    private int bestNot = 0;
    private int bestAlso = 0;

    Finder(Lexicon lexicon, Desk desk) {
      this.desk = desk;
      writer = new Writer(lexicon);
      for (int i = 0; i < rows.length; i++) {
        rows[i] = new Row();
      }
      int placed = 0;
      for (int pattern = 1; pattern < PATTERNS; pattern++) {
        patternTokens[pattern] = tokensOf(pattern);
      }
      for (int tokens = 1; tokens <= DEAREST_PATTERN; tokens++) {
        for (int pattern = 1; pattern < PATTERNS; pattern++) {
          if (patternTokens[pattern] == tokens) {
            order[placed] = pattern;
            placed++;
          }
        }
        cheaper[tokens] = placed;
      }
    }

    private static int tokensOf(int pattern) {
      if (pattern == DAILY_PATTERN) {
        return 1;
      }
      int tokens = 0;
      for (int weekday = 0; weekday < WEEK; weekday++) {
        if ((rowStarts(pattern) >> weekday & 1) != 0) {
          tokens += Math.min(3, rowSize(pattern, weekday));
        }
      }
      return tokens;
    }

    void work(Desk newDesk) {
      desk = newDesk;
      words.known = false;
    }

    int fewest(int days, int limit, boolean named) {
      if (days == 0) {
        return 1;
      }
      search(days, limit, named);
      return bestTokens;
    }

    Words find(int days) {
      if (words.known && words.target == days) {
        return words;
      }
      words.clear(days);
      if (days == 0) {
        words.tokens = 1;
        words.alike = 1 + absentWeekdays();
      } else {
        search(days, UNLIMITED, true);
        words.tokens = bestTokens;
        words.alike = bestAlike;
        words.notFeasts = bestNot;
        words.alsoFeasts = bestAlso;
        prepare(bestNot, bestAlso);
        fill(rows[0], rows[0]);
        trace();
      }
      writer.write(words, desk);
      return words;
    }

    /** A weekday that the PERIOD has not is as short as never. */
    private int absentWeekdays() {
      int absent = 0;
      for (int weekday = 0; weekday < WEEK; weekday++) {
        if (desk.patternDays[1 << weekday] == 0) {
          absent++;
        }
      }
      return absent;
    }

    /**
     * Weighs the uses of FEASTS. Each has one at most: behind also if all its DAYS are to be
     * told; else behind not, for there it would only hide DAYS that are to be told.
     */
    private void search(int days, int limit, boolean named) {
      target = days;
      bestTokens = TOO_DEAR;
      int inside = named ? feastsInside(days) : 0;
      int outside = named ? (1 << desk.feasts) - 1 & ~inside : 0;
      int top = Math.min(Math.max(limit, 0), MOST_SPANS_ASKED);
      for (int not = 0; not <= outside; not++) {
        for (int also = 0; also <= inside; also++) {
          if ((not & ~outside) == 0 && (also & ~inside) == 0) {
            prepare(not, also);
            Row behind = limit < 0 ? rows[0] : null;
            for (int spans = 0; spans <= top; spans++) {
              fill(rows[spans], behind);
              behind = rows[spans];
            }
            compare(not, also, rows[top]);
          }
        }
      }
    }

    private int feastsInside(int days) {
      int inside = 0;
      for (int feast = 0; feast < desk.feasts; feast++) {
        if ((desk.feastDays[feast] & ~days) == 0) {
          inside |= 1 << feast;
        }
      }
      return inside;
    }

    private void prepare(int not, int also) {
      hidden = feastsAsDays(not);
      wanted = target & ~feastsAsDays(also);
      startState = (not != 0 ? NOT_TOLD : 0) | (also != 0 ? ALSO_TOLD : 0);
    }

    private int feastsAsDays(int feasts) {
      int days = 0;
      for (int feast = 0; feast < desk.feasts; feast++) {
        if ((feasts >> feast & 1) != 0) {
          days |= desk.feastDays[feast];
        }
      }
      return days;
    }

    private void compare(int not, int also, Row row) {
      int named = Integer.bitCount(not) + Integer.bitCount(also);
      int tokens = row.tokens[startState] + named + Integer.bitCount(startState);
      if (tokens < bestTokens) {
        bestTokens = tokens;
        bestAlike = row.alike[startState];
        bestNot = not;
        bestAlso = also;
      } else if (tokens == bestTokens) {
        bestAlike += row.alike[startState];
      }
    }

    /** Fills a row from its end; behind a SPAN it goes on in the second row (null: no SPAN may stand). */
    private void fill(Row own, Row behind) {
      for (int state = 0; state < STATES; state++) {
        own.tokens[desk.period * STATES + state] = 0;
        own.alike[desk.period * STATES + state] = 1;
      }
      for (int day = desk.period - 1; day >= 0; day--) {
        for (int state = 0; state < STATES; state++) {
          int to = (day + 1) * STATES + stateBehindDay(day, state);
          own.tokens[day * STATES + state] = tokensOfDay(day, state) + own.tokens[to];
          own.alike[day * STATES + state] = own.alike[to];
        }
        if (behind != null) {
          offerSpans(own, behind, day);
        }
      }
    }

    private int tokensOfDay(int day, int state) {
      if ((wanted >> day & 1) == 0) {
        return 0;
      }
      return (state & ALSO_TOLD) == 0 ? 2 : 1;
    }

    private int stateBehindDay(int day, int state) {
      return (wanted >> day & 1) == 0 ? state : state | ALSO_TOLD;
    }

    private int tokensOfBounds(int first, int last) {
      return (first > 0 ? 2 : 0) + (last < desk.period - 1 ? 2 : 0);
    }

    /**
     * Offers each SPAN that begins on a DAY. A weekday leans by the DAYS that it would have to
     * leave out, less those that it would spare; the negative ones together tell how little
     * the DAYS of a SPAN can cost, whatever its pattern, and so which patterns are too dear.
     */
    private void offerSpans(Row own, Row behind, int first) {
      for (int weekday = 0; weekday < WEEK; weekday++) {
        leaning[weekday] = 0;
      }
      int lowest = 0;
      for (int last = first; last < desk.period; last++) {
        int weekday = desk.weekdayOf(last);
        boolean shown = (hidden >> last & 1) == 0;
        if ((wanted >> last & 1) != 0) {
          lowest++;
          if (shown) {
            lowest -= leaning[weekday] <= 0 ? 1 : 0;
            leaning[weekday]--;
          }
        } else if (shown && (target >> last & 1) == 0) {
          lowest += leaning[weekday] < 0 ? 1 : 0;
          leaning[weekday]++;
        }
        // The poorest state has the most to spend, the richest the least to pay behind it.
        int budget = own.tokens[first * STATES + startState]
            - behind.tokens[(last + 1) * STATES + STATES - 1] - tokensOfBounds(first, last);
        int dearest = Math.min(budget - lowest, DEAREST_PATTERN);
        if (dearest > 0) {
          offerPatterns(own, behind, first, last, budget, dearest);
        }
      }
    }

    private void offerPatterns(Row own, Row behind, int first, int last, int budget, int dearest) {
      int range = (1 << last + 1) - (1 << first);
      int bounds = tokensOfBounds(first, last);
      for (int i = 0; i < cheaper[dearest]; i++) {
        int shown = range & desk.patternDays[order[i]] & ~hidden;
        int out = shown & ~target;
        int more = range & wanted & ~shown;
        int tokens = patternTokens[order[i]] + Integer.bitCount(out) + Integer.bitCount(more);
        if (tokens <= budget) {
          int told = (out != 0 ? NOT_TOLD : 0) | (more != 0 ? ALSO_TOLD : 0);
          offer(own, behind, first, last, told, tokens + bounds);
        }
      }
    }

    private void offer(Row own, Row behind, int first, int last, int told, int tokens) {
      for (int state = startState; state < STATES; state++) {
        if ((state & startState) == startState) {
          int here = first * STATES + state;
          int to = (last + 1) * STATES + (state | told);
          int sum = tokens + Integer.bitCount(told & ~state) + behind.tokens[to];
          if (sum < own.tokens[here]) {
            own.tokens[here] = sum;
            own.alike[here] = behind.alike[to];
          } else if (sum == own.tokens[here]) {
            own.alike[here] += behind.alike[to];
          }
        }
      }
    }

    /** Follows the filled row from DAY 0, by the first of several ways each time. */
    private void trace() {
      int[] tokens = rows[0].tokens;
      int state = startState;
      int day = 0;
      for (int steps = 0; steps < MOST_DAYS && day < desk.period; steps++) {
        int alone = stateBehindDay(day, state);
        int sum = tokensOfDay(day, state) + tokens[(day + 1) * STATES + alone];
        if (sum == tokens[day * STATES + state]) {
          words.alsoDays |= wanted & 1 << day;
          state = alone;
          day++;
        } else {
          state = traceSpan(day, state);
          day = words.parts > 0 ? words.lasts[words.parts - 1] + 1 : desk.period;
        }
      }
    }

    private int traceSpan(int first, int state) {
      int[] tokens = rows[0].tokens;
      for (int last = first; last < desk.period; last++) {
        int range = (1 << last + 1) - (1 << first);
        for (int pattern = 1; pattern < PATTERNS; pattern++) {
          int shown = range & desk.patternDays[pattern] & ~hidden;
          int out = shown & ~target;
          int more = range & wanted & ~shown;
          int after = state | (out != 0 ? NOT_TOLD : 0) | (more != 0 ? ALSO_TOLD : 0);
          int sum = patternTokens[pattern] + tokensOfBounds(first, last)
              + Integer.bitCount(out) + Integer.bitCount(more) + Integer.bitCount(after ^ state)
              + tokens[(last + 1) * STATES + after];
          if (sum == tokens[first * STATES + state]) {
            words.addSpan(first, last, pattern);
            words.notDays |= out;
            words.alsoDays |= more;
            return after;
          }
        }
      }
      return state;
    }
  }
}
