import java.util.ArrayList;
import java.util.HashMap;
import java.util.HashSet;
import java.util.List;
import java.util.Map;
import java.util.Set;
import java.util.TreeSet;
import java.util.regex.Matcher;
import java.util.regex.Pattern;

/**
 * The document once more, written plainly and in other ways than the program: texts are cut by a
 * pattern, a FAULT is thrown, DAYS are sets, acts are kept as copies. ModelTest holds the two
 * against one another.
 */
final class Model {
  private static final String KEYWORDS = " desk days first feast train at never daily from to not also mo tu we th fr sa su ";
  private static final List<String> WEEK = List.of("mo", "tu", "we", "th", "fr", "sa", "su");
  private static final Pattern TOKEN = Pattern.compile("[a-z]+|[0-9]+|[;:-]|[^ \n]");

  /** A FAULT of a text, by its number and place. */
  private static final class Fault extends Exception {
    private static final long serialVersionUID = 1L;
    final int number;
    final int place;

    Fault(int number, int place) {
      this.number = number;
      this.place = place;
    }
  }

  private record Token(String text, int place) {}

  private record Train(int route, int minute, Set<Integer> days) {}

  private record Read(Set<Integer> days, int tokens) {}

  /** What is told as a text. */
  private static final class Told {
    int period = 0;
    int first = 0;
    int lines = 0;
    final List<String> names = new ArrayList<>();
    final List<Set<Integer>> feasts = new ArrayList<>();
    List<Train> trains = new ArrayList<>();

    int weekday(int day) {
      return (first + day) % 7;
    }
  }

  private final StringBuilder tape = new StringBuilder();
  private Told desk = new Told();
  private final List<List<Train>> had = new ArrayList<>();
  private Fault deskFault = null;
  private boolean wordingTold = false;
  private Fault toldFault = null;
  private Read told = null;
  private final Map<Set<Integer>, ModelSearch> searches = new HashMap<>();

  // Reading.

  private static final class Cursor {
    final List<Token> tokens = new ArrayList<>();
    int at = 0;

    Cursor(String text) {
      Matcher m = TOKEN.matcher(text);
      while (m.find()) {
        tokens.add(new Token(m.group(), m.start()));
      }
      tokens.add(new Token("", text.length()));
    }

    String see() {
      return tokens.get(at).text;
    }

    boolean sees(String text) {
      return see().equals(text);
    }

    boolean isWord() {
      return see().matches("[a-z]+");
    }

    boolean isNumber() {
      return see().matches("[0-9]+");
    }

    boolean isWeekday() {
      return WEEK.contains(see());
    }

    Fault fault(int number) {
      return new Fault(number, tokens.get(at).place);
    }

    void take(String text) throws Fault {
      if (!sees(text)) {
        throw fault(1);
      }
      at++;
    }

    int number(int least, int most) throws Fault {
      if (!isNumber()) {
        throw fault(1);
      }
      java.math.BigInteger n = new java.math.BigInteger(see());
      if (n.compareTo(java.math.BigInteger.valueOf(least)) < 0 || n.compareTo(java.math.BigInteger.valueOf(most)) > 0) {
        throw fault(2);
      }
      at++;
      return n.intValue();
    }

    int weekday() throws Fault {
      if (!isWeekday()) {
        throw fault(1);
      }
      return WEEK.indexOf(tokens.get(at++).text);
    }

    /** A DAY that must not be in a row yet, put to it. */
    int newDay(int last, Set<Integer> row) throws Fault {
      int day = number(0, last);
      if (!row.add(day)) {
        at--;
        throw fault(2);
      }
      return day;
    }
  }

  private static Told readDesk(String text) throws Fault {
    Cursor c = new Cursor(text);
    Told d = new Told();
    while (!c.sees("")) {
      if (d.lines == 0) {
        c.take("desk");
        c.take("days");
        d.period = c.number(1, 28);
        c.take("first");
        d.first = c.weekday();
      } else if (c.sees("feast")) {
        readFeast(c, d);
      } else {
        readTrain(c, d);
      }
      c.take(";");
      d.lines++;
    }
    return d;
  }

  private static void readFeast(Cursor c, Told d) throws Fault {
    if (d.feasts.size() == 2) {
      throw c.fault(3);
    }
    c.take("feast");
    if (!c.isWord()) {
      throw c.fault(1);
    }
    String name = c.see();
    if (name.length() > 8 || KEYWORDS.contains(" " + name + " ") || d.names.contains(name)) {
      throw c.fault(2);
    }
    c.at++;
    Set<Integer> days = new TreeSet<>();
    do {
      c.newDay(d.period - 1, days);
    } while (c.isNumber());
    d.names.add(name);
    d.feasts.add(days);
  }

  private static void readTrain(Cursor c, Told d) throws Fault {
    if (c.sees("train") && d.trains.size() == 6) {
      throw c.fault(3);
    }
    c.take("train");
    int route = c.number(0, 9);
    c.take("at");
    int minute = c.number(0, 1439);
    c.take(":");
    d.trains.add(new Train(route, minute, readWording(c, d).days));
  }

  private static Read readWording(Cursor c, Told d) throws Fault {
    int start = c.at;
    Set<Integer> days = new TreeSet<>();
    if (c.sees("never")) {
      c.at++;
      return new Read(days, 1);
    }
    int last = -1;
    while ((c.sees("daily") || c.isWeekday()) && last < d.period) {
      last = readSpan(c, d, last, days);
    }
    if (c.sees("not")) {
      days.removeAll(readEntries(c, d));
    }
    if (c.sees("also")) {
      days.addAll(readEntries(c, d));
    }
    if (c.at == start) {
      throw c.fault(1);
    }
    return new Read(days, c.at - start);
  }

  /** Answers the last DAY, or one behind the PERIOD if there was no to. */
  private static int readSpan(Cursor c, Told d, int ahead, Set<Integer> days) throws Fault {
    Set<Integer> weekdays = readPattern(c);
    int from = 0;
    if (c.sees("from")) {
      c.at++;
      from = c.number(ahead + 1, d.period - 1);
    } else if (ahead >= 0) {
      throw c.fault(1);
    }
    int to = d.period;
    if (c.sees("to")) {
      c.at++;
      to = c.number(from, d.period - 1);
    }
    for (int day = from; day <= to && day < d.period; day++) {
      if (weekdays.contains(d.weekday(day))) {
        days.add(day);
      }
    }
    return to;
  }

  private static Set<Integer> readPattern(Cursor c) throws Fault {
    Set<Integer> weekdays = new TreeSet<>();
    if (c.sees("daily")) {
      c.at++;
      weekdays.addAll(List.of(0, 1, 2, 3, 4, 5, 6));
      return weekdays;
    }
    int latest = -1;
    while (c.isWeekday()) {
      latest = later(c, latest);
      weekdays.add(latest);
      if (c.sees("-")) {
        c.at++;
        int end = later(c, latest);
        for (int w = latest; w <= end; w++) {
          weekdays.add(w);
        }
        latest = end;
      }
    }
    return weekdays;
  }

  private static int later(Cursor c, int latest) throws Fault {
    int weekday = c.weekday();
    if (weekday <= latest) {
      c.at--;
      throw c.fault(2);
    }
    return weekday;
  }

  private static Set<Integer> readEntries(Cursor c, Told d) throws Fault {
    c.at++;
    Set<Integer> days = new TreeSet<>();
    Set<Integer> numbers = new TreeSet<>();
    Set<String> names = new HashSet<>();
    do {
      if (d.names.contains(c.see())) {
        if (!names.add(c.see())) {
          throw c.fault(2);
        }
        days.addAll(d.feasts.get(d.names.indexOf(c.see())));
        c.at++;
      } else {
        days.add(c.newDay(d.period - 1, numbers));
      }
    } while (c.isNumber() || d.names.contains(c.see()));
    return days;
  }

  private Read readAlone() throws Fault {
    Cursor c = new Cursor(takeTape());
    Read r = readWording(c, desk);
    c.take("");
    return r;
  }

  private String takeTape() {
    String text = tape.toString();
    tape.setLength(0);
    return text;
  }

  // What the calls ask.

  static int bits(Iterable<Integer> days) {
    int sum = 0;
    for (int day : days) {
      sum |= 1 << day;
    }
    return sum;
  }

  private boolean isTrain(int t) {
    return t >= 0 && t < desk.trains.size();
  }

  private boolean isDay(int d) {
    return d >= 0 && d < desk.period;
  }

  private Set<Integer> running(int t) {
    return desk.trains.get(t).days;
  }

  private ModelSearch search(Set<Integer> days) {
    ModelSearch s = searches.get(days);
    if (s == null) {
      int[] feasts = new int[desk.feasts.size()];
      for (int f = 0; f < feasts.length; f++) {
        feasts[f] = bits(desk.feasts.get(f));
      }
      s = new ModelSearch(desk.period, desk.first, desk.names, feasts, bits(days));
      searches.put(days, s);
    }
    return s;
  }

  private ModelSearch search(int t) {
    return search(running(t));
  }

  private List<Integer> group(int t) {
    List<Integer> mates = new ArrayList<>();
    Train own = desk.trains.get(t);
    for (int m = 0; m < desk.trains.size(); m++) {
      Train mate = desk.trains.get(m);
      if (mate.route == own.route && mate.minute == own.minute) {
        mates.add(m);
      }
    }
    return mates;
  }

  private Set<Integer> jointDays(int t) {
    Set<Integer> days = new TreeSet<>();
    for (int m : group(t)) {
      days.addAll(running(m));
    }
    return days;
  }

  private Set<Integer> voted(int t) {
    Set<Integer> weekdays = new TreeSet<>();
    for (int w = 0; w < 7; w++) {
      int runs = 0;
      int rests = 0;
      for (int d = 0; d < desk.period; d++) {
        if (desk.weekday(d) == w) {
          runs += running(t).contains(d) ? 1 : 0;
          rests += running(t).contains(d) ? 0 : 1;
        }
      }
      if (runs > rests) {
        weekdays.add(w);
      }
    }
    return weekdays;
  }

  private void act() {
    had.add(desk.trains);
    desk.trains = new ArrayList<>(desk.trains);
  }

  private void setRunning(int t, Set<Integer> days) {
    Train old = desk.trains.get(t);
    desk.trains.set(t, new Train(old.route, old.minute, days));
  }

  int feed(int a, int b, int c, int d, int e) {
    if (tape.length() > 580) {
      return -1;
    }
    for (int n : new int[] {a, b, c, d, e}) {
      tape.append((char) (n >>> 24)).append((char) (n >>> 16 & 255)).append((char) (n >>> 8 & 255)).append((char) (n & 255));
    }
    return tape.length();
  }

  int end(int n) {
    if (n < 0 || n > tape.length()) {
      return -1;
    }
    tape.setLength(n);
    return n;
  }

  int desk() {
    try {
      desk = readDesk(takeTape());
    } catch (Fault f) {
      deskFault = f;
      return -4;
    }
    deskFault = null;
    had.clear();
    searches.clear();
    wordingTold = false;
    return desk.lines;
  }

  int fault(int what) {
    return what == 0 ? deskFault == null ? 0 : deskFault.number : what == 1 && deskFault != null ? deskFault.place : -1;
  }

  int count(int what) {
    int[] counts = {desk.period, desk.first, desk.feasts.size(), desk.trains.size(), had.size(), desk.lines, tape.length()};
    return what < 0 || what > 6 ? -1 : counts[what];
  }

  int weekday(int d) {
    return isDay(d) ? desk.weekday(d) : -2;
  }

  int feast(int f) {
    return f >= 0 && f < desk.feasts.size() ? bits(desk.feasts.get(f)) : -2;
  }

  int train(int t, int what) {
    return !isTrain(t) ? -2 : what == 0 ? desk.trains.get(t).route : what == 1 ? desk.trains.get(t).minute : -2;
  }

  int days(int t) {
    return isTrain(t) ? bits(running(t)) : -2;
  }

  int runs(int t, int d) {
    return !isTrain(t) || !isDay(d) ? -2 : running(t).contains(d) ? 1 : 0;
  }

  int many(int t) {
    return isTrain(t) ? running(t).size() : -2;
  }

  int votes(int t, int w) {
    if (!isTrain(t) || w < 0 || w > 6) {
      return -2;
    }
    return (int) running(t).stream().filter(d -> desk.weekday(d) == w).count();
  }

  int vote(int t) {
    return isTrain(t) ? bits(voted(t)) : -2;
  }

  int strays(int t) {
    if (!isTrain(t)) {
      return -2;
    }
    int strays = 0;
    for (int d = 0; d < desk.period; d++) {
      strays += voted(t).contains(desk.weekday(d)) == running(t).contains(d) ? 0 : 1;
    }
    return strays;
  }

  int next(int t, int from) {
    if (!isTrain(t) || !isDay(from)) {
      return -2;
    }
    for (int d : running(t)) {
      if (d >= from) {
        return d;
      }
    }
    return -1;
  }

  int rest(int t) {
    if (!isTrain(t)) {
      return -2;
    }
    int most = 0;
    for (int a = 0; a < desk.period; a++) {
      int b = a;
      while (b < desk.period && !running(t).contains(b)) {
        b++;
      }
      most = Math.max(most, b - a);
    }
    return most;
  }

  int words(int t) {
    return isTrain(t) ? search(t).words().split(" ").length : -2;
  }

  int length(int t) {
    return isTrain(t) ? search(t).words().length() : -2;
  }

  int sign(int t, int i) {
    return !isTrain(t) || i < 0 ? -2 : i < length(t) ? search(t).words().charAt(i) : -1;
  }

  long ways(int t) {
    return isTrain(t) ? search(t).ways : -2;
  }

  int spans(int t) {
    return isTrain(t) ? search(t).best.spans().size() : -2;
  }

  int span(int t, int k, int what) {
    if (!isTrain(t) || k < 0 || what < 0 || what > 2) {
      return -2;
    }
    return k < spans(t) ? search(t).best.spans().get(k)[what] : -1;
  }

  int nots(int t, int what) {
    return !isTrain(t) ? -2 : what == 0 ? search(t).best.notFeasts() : what == 1 ? search(t).best.notDays() : -2;
  }

  int alsos(int t, int what) {
    return !isTrain(t) ? -2 : what == 0 ? search(t).best.alsoFeasts() : what == 1 ? search(t).best.alsoDays() : -2;
  }

  int within(int t, int k) {
    return !isTrain(t) || k < 0 || k > 4 ? -2 : search(t).within[k];
  }

  int plain(int t) {
    return isTrain(t) ? search(t).plain : -2;
  }

  int other(int t, int d) {
    if (!isTrain(t) || !isDay(d)) {
      return -2;
    }
    Set<Integer> days = new TreeSet<>(running(t));
    if (!days.remove(d)) {
      days.add(d);
    }
    return search(days).tokens;
  }

  int shift(int t, int n) {
    if (!isTrain(t) || n < -27 || n > 27) {
      return -2;
    }
    Set<Integer> days = new TreeSet<>();
    for (int d : running(t)) {
      if (isDay(d + n)) {
        days.add(d + n);
      }
    }
    return search(days).tokens;
  }

  int least(int bits) {
    Set<Integer> days = new TreeSet<>();
    for (int d = 0; d < 32; d++) {
      if ((bits >>> d & 1) != 0) {
        if (!isDay(d)) {
          return -2;
        }
        days.add(d);
      }
    }
    return desk.period == 0 ? -2 : search(days).tokens;
  }

  int tells() {
    if (desk.period == 0) {
      return -2;
    }
    wordingTold = true;
    told = null;
    toldFault = null;
    try {
      told = readAlone();
      return told.days.size();
    } catch (Fault f) {
      toldFault = f;
      return -4;
    }
  }

  int told(int what) {
    if (!wordingTold) {
      return -1;
    }
    return switch (what) {
      case 0 -> told == null ? -1 : bits(told.days);
      case 1 -> told == null ? -1 : told.tokens;
      case 2 -> toldFault == null ? 0 : toldFault.number;
      case 3 -> toldFault == null ? -1 : toldFault.place;
      default -> -1;
    };
  }

  int worse() {
    return wordingTold && told != null ? told.tokens - search(told.days).tokens : -1;
  }

  int shares(int t, int o) {
    if (!isTrain(t) || !isTrain(o)) {
      return -2;
    }
    Set<Integer> both = new TreeSet<>(running(t));
    both.retainAll(running(o));
    return bits(both);
  }

  int same(int t, int o) {
    return !isTrain(t) || !isTrain(o) ? -2 : running(t).equals(running(o)) ? 1 : 0;
  }

  int join(int t) {
    return isTrain(t) ? group(t).get(0) : -2;
  }

  int joint(int t) {
    return isTrain(t) ? bits(jointDays(t)) : -2;
  }

  int twice(int t) {
    if (!isTrain(t)) {
      return -2;
    }
    Set<Integer> days = new TreeSet<>();
    for (int d = 0; d < desk.period; d++) {
      int day = d;
      if (group(t).stream().filter(m -> running(m).contains(day)).count() >= 2) {
        days.add(d);
      }
    }
    return bits(days);
  }

  int saved() {
    if (desk.period == 0) {
      return -2;
    }
    int alone = 0;
    Map<String, Integer> joined = new HashMap<>();
    for (int t = 0; t < desk.trains.size(); t++) {
      Train train = desk.trains.get(t);
      alone += words(t);
      joined.put(train.route + "/" + train.minute, search(jointDays(t)).tokens);
    }
    return alone - joined.values().stream().mapToInt(Integer::intValue).sum();
  }

  int crowd(int d) {
    if (!isDay(d)) {
      return -2;
    }
    Set<Integer> trains = new TreeSet<>();
    for (int t = 0; t < desk.trains.size(); t++) {
      if (running(t).contains(d)) {
        trains.add(t);
      }
    }
    return bits(trains);
  }

  int full() {
    int best = desk.period == 0 ? -2 : 0;
    for (int d = 0; d < desk.period; d++) {
      best = Integer.bitCount(crowd(d)) > Integer.bitCount(crowd(best)) ? d : best;
    }
    return best;
  }

  int flips(int t, int d) {
    if (!isTrain(t) || !isDay(d)) {
      return -2;
    }
    if (had.size() == 20) {
      return -5;
    }
    act();
    Set<Integer> days = new TreeSet<>(running(t));
    if (!days.remove(d)) {
      days.add(d);
    }
    setRunning(t, days);
    return words(t);
  }

  int sets(int t) {
    if (!isTrain(t)) {
      return -2;
    }
    if (had.size() == 20) {
      takeTape();
      return -5;
    }
    try {
      Read r = readAlone();
      act();
      setRunning(t, r.days);
      return r.days.size();
    } catch (Fault f) {
      return -4;
    }
  }

  int merges() {
    if (desk.period == 0) {
      return -2;
    }
    if (had.size() == 20) {
      return -5;
    }
    List<Set<Integer>> then = new ArrayList<>();
    for (int t = 0; t < desk.trains.size(); t++) {
      then.add(join(t) == t ? jointDays(t) : new TreeSet<>());
    }
    act();
    int others = 0;
    for (int t = 0; t < then.size(); t++) {
      others += then.get(t).equals(running(t)) ? 0 : 1;
      setRunning(t, then.get(t));
    }
    return others;
  }

  int undo() {
    if (desk.period == 0) {
      return -2;
    }
    if (had.isEmpty()) {
      return -5;
    }
    desk.trains = had.remove(had.size() - 1);
    return had.size();
  }

  int anew() {
    if (desk.period == 0) {
      return -2;
    }
    int many = had.size();
    if (many > 0) {
      desk.trains = had.get(0);
      had.clear();
    }
    return many;
  }
}
