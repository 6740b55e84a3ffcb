import java.util.ArrayList;
import java.util.List;
import java.util.Random;

/** Promises 1 to 46: runs of calls in any order, each answer against that of the model. */
public final class ModelTest {
  private static final Check CHECK = new Check();
  private static final String[] WEEK = {"mo", "tu", "we", "th", "fr", "sa", "su"};
  private static final String[] ANY = {"desk", "days", "first", "feast", "train", "at", "never", "daily", "from", "to", "not", "also",
      "mo", "we", "su", "a", "b", "holy", "abcdefgh", "abcdefghi", "0", "1", "5", "27", "28", "1439", "1440", ";", ":", "-", ".", "M"};

  public static void main(String[] args) {
    int rounds = args.length > 0 ? Integer.parseInt(args[0]) : 100;
    long seed = args.length > 1 ? Long.parseLong(args[1]) : 1810;
    for (int round = 0; round < rounds; round++) {
      new ModelTest(new Random(seed * 1000003 + round)).run();
    }
    for (int round = 0; round < 30 * rounds; round++) {
      new ModelTest(new Random(seed * 1000033 + round)).read();
    }
    CHECK.finish("ModelTest");
  }

  private final Random random;
  private final DayWords x = new DayWords();
  private final Model m = new Model();
  private final List<String> log = new ArrayList<>();
  private boolean wrong = false;
  private int calls = 0;

  private ModelTest(Random random) {
    this.random = random;
  }

  private void run() {
    if (random.nextInt(20) != 0) {
      pour(deskText());
      due("desk()", x.desk(), m.desk());
    }
    while (calls < 470 && !wrong) {
      anyCall();
    }
  }

  /** Spoilt texts one behind the other: how each is read. */
  private void read() {
    pour(deskText());
    due("desk()", x.desk(), m.desk());
    for (int i = 0; i < 8 && !wrong; i++) {
      pour(spoilt(wording(m.count(0), knownNames())));
      due("tells()", x.tells(), m.tells());
      for (int what = 0; what < 4; what++) {
        due("told(" + what + ")", x.told(what), m.told(what));
      }
    }
    for (int i = 0; i < 4 && !wrong; i++) {
      String text = spoilt(deskText());
      pour(text.substring(0, Math.min(600, text.length())));
      due("desk()", x.desk(), m.desk());
      due("fault(0)", x.fault(0), m.fault(0));
      due("fault(1)", x.fault(1), m.fault(1));
    }
  }

  private void due(String call, long got, long want) {
    calls++;
    log.add(call);
    if (got != want && !wrong) {
      wrong = true;
      CHECK.due(String.join(" ", log), got, want);
    }
  }

  /** Puts a text on both TAPES, by twenty bytes a call. */
  private void pour(String text) {
    int had = m.count(6);
    for (int i = 0; i < text.length(); i += 20) {
      int[] v = new int[5];
      for (int j = 0; j < 20; j++) {
        v[j / 4] = v[j / 4] << 8 | (i + j < text.length() ? text.charAt(i + j) & 255 : 0);
      }
      due("feed '" + text.substring(i, Math.min(i + 20, text.length())) + "'",
          x.feed(v[0], v[1], v[2], v[3], v[4]), m.feed(v[0], v[1], v[2], v[3], v[4]));
    }
    due("end(" + (had + text.length()) + ")", x.end(had + text.length()), m.end(had + text.length()));
  }

  // Texts: good ones, and good ones with a little spoilt.

  private String deskText() {
    int period = random.nextInt(4) == 0 ? 28 : 1 + random.nextInt(random.nextInt(3) == 0 ? 28 : 12);
    StringBuilder b = new StringBuilder("desk days " + period + " first " + WEEK[random.nextInt(7)] + ";");
    int feasts = random.nextInt(3);
    int trains = random.nextInt(7);
    List<String> names = new ArrayList<>();
    while (feasts + trains > 0) {
      if (feasts > 0 && (trains == 0 || random.nextBoolean())) {
        feasts--;
        String name = names.isEmpty() ? random.nextBoolean() ? "a" : "abcdefgh" : random.nextBoolean() ? "b" : "holy";
        names.add(name);
        b.append("feast ").append(name).append(days(period, 1 + random.nextInt(5))).append(';');
      } else {
        trains--;
        b.append("train ").append(random.nextInt(2) * 9).append(" at ").append(random.nextInt(2) * 1439).append(':');
        b.append(wording(period, names)).append(';');
      }
    }
    return b.length() > 600 ? deskText() : b.toString();
  }

  private String days(int period, int many) {
    List<Integer> row = new ArrayList<>();
    for (int i = 0; i < many; i++) {
      int day = random.nextInt(period);
      if (!row.contains(day)) {
        row.add(day);
      }
    }
    StringBuilder b = new StringBuilder();
    row.forEach(d -> b.append(' ').append(d));
    return b.toString();
  }

  private String wording(int period, List<String> names) {
    if (random.nextInt(12) == 0) {
      return "never";
    }
    StringBuilder b = new StringBuilder();
    int from = 0;
    int spans = random.nextInt(4);
    for (int k = 0; k < spans && from < period; k++) {
      int to = from + random.nextInt(period - from);
      b.append(pattern());
      if (from > 0 || random.nextInt(4) == 0) {
        b.append(" from ").append(from);
      }
      boolean open = random.nextInt(3) == 0;
      b.append(open ? " " : " to " + to + " ");
      from = open ? period : to + 1 + random.nextInt(3);
    }
    for (String word : new String[] {"not", "also"}) {
      String entries = random.nextInt(3) == 0 ? days(period, 1 + random.nextInt(4)) : "";
      for (String name : names) {
        entries = random.nextInt(4) == 0 ? entries + " " + name : entries;
      }
      b.append(entries.isEmpty() ? "" : word + entries + " ");
    }
    return b.length() == 0 ? "also " + random.nextInt(period) : b.toString();
  }

  private String pattern() {
    if (random.nextInt(4) == 0) {
      return "daily";
    }
    StringBuilder b = new StringBuilder();
    int w = random.nextInt(7);
    while (w < 7) {
      int end = w + random.nextInt(7 - w);
      b.append(' ').append(WEEK[w]);
      if (end > w && random.nextBoolean()) {
        b.append(random.nextBoolean() ? " - " : "-").append(WEEK[end]);
        w = end;
      }
      w += 1 + random.nextInt(4);
    }
    return b.toString();
  }

  private String spoilt(String text) {
    if (random.nextInt(3) == 0) {
      return otherWord(text);
    }
    int cut = random.nextInt(text.length() + 1);
    int on = Math.min(text.length(), cut + random.nextInt(4));
    return switch (random.nextInt(5)) {
      case 0 -> text.substring(0, cut);
      case 1 -> text.substring(0, cut) + text.substring(on);
      case 2 -> text.substring(0, cut) + " " + ANY[random.nextInt(ANY.length)] + " " + text.substring(cut);
      case 3 -> text.substring(0, cut) + (char) random.nextInt(256) + text.substring(on);
      default -> text.replace(' ', '\n') + " ".repeat(random.nextInt(3)) + ANY[random.nextInt(ANY.length)];
    };
  }

  /** A TOKEN is told twice, changes its place, or is another one. */
  private String otherWord(String text) {
    String[] words = text.replaceAll("[;:-]", " $0 ").trim().split(" +");
    int at = random.nextInt(words.length);
    int to = random.nextInt(words.length);
    String word = words[at];
    switch (random.nextInt(3)) {
      case 0: words[to] = word; break;
      case 1: words[at] = words[to]; words[to] = word; break;
      default: words[at] = ANY[random.nextInt(ANY.length)]; break;
    }
    return String.join(random.nextBoolean() ? " " : "\n", words);
  }

  private List<String> knownNames() {
    List<String> names = new ArrayList<>(List.of("a", "b", "holy", "abcdefgh"));
    while (names.size() > m.count(2)) {
      names.remove(random.nextInt(names.size()));
    }
    return names;
  }

  private void pourWording() {
    String text = wording(Math.max(1, m.count(0)), knownNames());
    text = random.nextInt(3) == 0 ? spoilt(text) : text;
    pour(text.substring(0, Math.min(text.length(), 120)));
  }

  // Calls.

  private int near(int bound) {
    int r = random.nextInt(30);
    return r == 0 ? -1 : r == 1 ? bound : r == 2 ? random.nextInt() : random.nextInt(Math.max(1, bound));
  }

  private void anyCall() {
    int t = near(m.count(3));
    int o = near(m.count(3));
    int d = near(m.count(0));
    int what = near(3);
    int pick = random.nextInt(48);
    if (pick < 17) {
      askDays(pick, t, d);
    } else if (pick < 30) {
      askWords(pick, t, d, what);
    } else if (pick < 40) {
      askDesk(pick, t, o, d);
    } else {
      act(pick, t, d);
    }
  }

  private void askDays(int pick, int t, int d) {
    int what = near(7);
    switch (pick) {
      case 0: due("fault(" + what + ")", x.fault(what), m.fault(what)); break;
      case 1: case 2: due("count(" + what + ")", x.count(what), m.count(what)); break;
      case 3: due("weekday(" + d + ")", x.weekday(d), m.weekday(d)); break;
      case 4: due("feast(" + what + ")", x.feast(what), m.feast(what)); break;
      case 5: due("train(" + t + ", " + what % 3 + ")", x.train(t, what % 3), m.train(t, what % 3)); break;
      case 6: case 7: due("days(" + t + ")", x.days(t), m.days(t)); break;
      case 8: due("runs(" + t + ", " + d + ")", x.runs(t, d), m.runs(t, d)); break;
      case 9: due("many(" + t + ")", x.many(t), m.many(t)); break;
      case 10: due("votes(" + t + ", " + what + ")", x.votes(t, what), m.votes(t, what)); break;
      case 11: due("vote(" + t + ")", x.vote(t), m.vote(t)); break;
      case 12: due("strays(" + t + ")", x.strays(t), m.strays(t)); break;
      case 13: due("next(" + t + ", " + d + ")", x.next(t, d), m.next(t, d)); break;
      case 14: due("rest(" + t + ")", x.rest(t), m.rest(t)); break;
      case 15: due("told(" + what % 5 + ")", x.told(what % 5), m.told(what % 5)); break;
      default: due("worse()", x.worse(), m.worse()); break;
    }
  }

  private void askWords(int pick, int t, int d, int what) {
    int k = near(5);
    int n = random.nextInt(61) - 30;
    int days = random.nextInt() & random.nextInt() & (1 << Math.min(30, m.count(0) + random.nextInt(9) / 8)) - 1;
    switch (pick) {
      case 17: due("words(" + t + ")", x.words(t), m.words(t)); break;
      case 18: due("length(" + t + ")", x.length(t), m.length(t)); break;
      case 19: signs(t); break;
      case 20: due("ways(" + t + ")", x.ways(t), m.ways(t)); break;
      case 21: due("spans(" + t + ")", x.spans(t), m.spans(t)); break;
      case 22: due("span(" + t + ", " + k + ", " + what + ")", x.span(t, k, what), m.span(t, k, what)); break;
      case 23: due("nots(" + t + ", " + what + ")", x.nots(t, what), m.nots(t, what)); break;
      case 24: due("alsos(" + t + ", " + what + ")", x.alsos(t, what), m.alsos(t, what)); break;
      case 25: due("within(" + t + ", " + k + ")", x.within(t, k), m.within(t, k)); break;
      case 26: due("plain(" + t + ")", x.plain(t), m.plain(t)); break;
      case 27: due("other(" + t + ", " + d + ")", x.other(t, d), m.other(t, d)); break;
      case 28: due("shift(" + t + ", " + n + ")", x.shift(t, n), m.shift(t, n)); break;
      default: due("least(" + days + ")", x.least(days), m.least(days)); break;
    }
  }

  /** A few signs, and those at the end. */
  private void signs(int t) {
    int length = Math.max(0, m.length(t));
    for (int i : new int[] {-1, random.nextInt(length + 1), random.nextInt(length + 1), length - 1, length}) {
      due("sign(" + t + ", " + i + ")", x.sign(t, i), m.sign(t, i));
    }
  }

  private void askDesk(int pick, int t, int o, int d) {
    switch (pick) {
      case 30: due("shares(" + t + ", " + o + ")", x.shares(t, o), m.shares(t, o)); break;
      case 31: due("same(" + t + ", " + o + ")", x.same(t, o), m.same(t, o)); break;
      case 32: due("join(" + t + ")", x.join(t), m.join(t)); break;
      case 33: due("joint(" + t + ")", x.joint(t), m.joint(t)); break;
      case 34: due("twice(" + t + ")", x.twice(t), m.twice(t)); break;
      case 35: due("saved()", x.saved(), m.saved()); break;
      case 36: due("crowd(" + d + ")", x.crowd(d), m.crowd(d)); break;
      case 37: due("full()", x.full(), m.full()); break;
      default: due("end(" + o + ")", x.end(o), m.end(o)); break;
    }
  }

  private void act(int pick, int t, int d) {
    switch (pick) {
      case 40: case 41: due("flips(" + t + ", " + d + ")", x.flips(t, d), m.flips(t, d)); break;
      case 42: case 43:
        pourWording();
        due("sets(" + t + ")", x.sets(t), m.sets(t));
        break;
      case 44:
        pourWording();
        due("tells()", x.tells(), m.tells());
        break;
      case 45: due("merges()", x.merges(), m.merges()); break;
      case 46:
        if (random.nextInt(6) == 0) {
          due("anew()", x.anew(), m.anew());
        } else {
          due("undo()", x.undo(), m.undo());
        }
        break;
      default: newDesk(); break;
    }
  }

  private void newDesk() {
    int how = random.nextInt(12);
    if (how > 6) {
      return;
    }
    String text = how == 0 ? "" : how < 4 ? deskText() : spoilt(deskText());
    due("end(0)", x.end(0), m.end(0));
    pour(text.substring(0, Math.min(600, text.length())));
    due("desk()", x.desk(), m.desk());
    due("fault(0)", x.fault(0), m.fault(0));
    due("fault(1)", x.fault(1), m.fault(1));
  }
}
