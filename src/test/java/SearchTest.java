import java.util.ArrayList;
import java.util.Arrays;
import java.util.List;
import java.util.Random;

/**
 * Promises 18 to 30 against two slow searches that share nothing with the program: every WORDING
 * of few TOKENS told one by one over short periods, and a plain search without any short cut
 * over long ones.
 */
public final class SearchTest {
  private static final Check CHECK = new Check();

  public static void main(String[] args) {
    all(5, 3, new int[] {0b00110, 0b10010}, 6);
    all(6, 0, new int[] {}, 7);
    all(3, 5, new int[] {0b101}, 7);
    all(8, 6, new int[] {0b10000011, 0b01100000}, 6);
    all(9, 1, new int[] {0b100101000}, 6);
    all(1, 2, new int[] {1, 1}, 4);
    all(2, 4, new int[] {3, 1}, 5);
    Random random = new Random(20261117);
    for (int i = 0; i < 60; i++) {
      plainSearch(random, 1 + random.nextInt(28), random.nextInt(7), random.nextInt(3), 3);
    }
    for (int i = 0; i < 8; i++) {
      plainSearch(random, 28, random.nextInt(7), 2, 2);
    }
    twoSpans();
    nearTheBound();
    farEnds();
    deskBehindDesk(random);
    CHECK.finish("SearchTest");
  }

  private static final String[] WEEKDAYS = {"mo", "tu", "we", "th", "fr", "sa", "su"};

  private static String deskText(int n, int first, int[] feasts) {
    StringBuilder b = new StringBuilder("desk days " + n + " first " + WEEKDAYS[first] + ";");
    for (int f = 0; f < feasts.length; f++) {
      b.append("feast f").append((char) ('a' + f)).append(Check.also(feasts[f]).substring(4)).append(';');
    }
    return b.append("train 0 at 0:never;").toString();
  }

  /** Told as a person would: each row of three or more shortened. */
  private static String pattern(int mask) {
    if (mask == 127) {
      return "daily";
    }
    StringBuilder b = new StringBuilder();
    int w = 0;
    while (w < 7) {
      int e = w;
      while (e < 7 && (mask >> e & 1) != 0) {
        e++;
      }
      if (e - w >= 3) {
        b.append(' ').append(WEEKDAYS[w]).append(" - ").append(WEEKDAYS[e - 1]);
      } else {
        for (int k = w; k < e; k++) {
          b.append(' ').append(WEEKDAYS[k]);
        }
      }
      w = Math.max(e, w + 1);
    }
    return b.substring(1);
  }

  private static int tokens(String text) {
    return text.isEmpty() ? 0 : text.split(" ").length;
  }

  private record Span(int first, int last, int mask) {}

  /** A WORDING of form III. */
  private record Wording(List<Span> spans, int nf, int nd, int af, int ad, boolean never) {
    String text(int n) {
      if (never) {
        return "never";
      }
      List<String> parts = new ArrayList<>();
      for (Span s : spans) {
        parts.add(pattern(s.mask) + (s.first > 0 ? " from " + s.first : "") + (s.last < n - 1 ? " to " + s.last : ""));
      }
      row(parts, "not", nf, nd);
      row(parts, "also", af, ad);
      return String.join(" ", parts);
    }

    private static void row(List<String> parts, String word, int feasts, int days) {
      if (feasts != 0 || days != 0) {
        parts.add(word);
      }
      for (int f = 0; f < 2; f++) {
        if ((feasts >> f & 1) != 0) {
          parts.add("f" + (char) ('a' + f));
        }
      }
      for (int d = 0; d < 28; d++) {
        if ((days >> d & 1) != 0) {
          parts.add("" + d);
        }
      }
    }

    int noted() {
      return (nf != 0 || nd != 0 ? 1 : 0) + (af != 0 || ad != 0 ? 1 : 0)
          + Integer.bitCount(nf) + Integer.bitCount(nd) + Integer.bitCount(af) + Integer.bitCount(ad);
    }

    boolean ahead(Wording o) {
      if (never != o.never) {
        return never;
      }
      if (nf != o.nf) {
        return nf < o.nf;
      }
      if (af != o.af) {
        return af < o.af;
      }
      int i = 0;
      for (int day = 0; day < 28;) {
        Span a = i < spans.size() && spans.get(i).first == day ? spans.get(i) : null;
        Span b = i < o.spans.size() && o.spans.get(i).first == day ? o.spans.get(i) : null;
        if (a == null && b == null) {
          day++;
        } else if (a == null || b == null) {
          return a == null;
        } else if (a.last != b.last) {
          return a.last < b.last;
        } else if (a.mask != b.mask) {
          return a.mask < b.mask;
        } else {
          i++;
          day = a.last + 1;
        }
      }
      return false;
    }
  }

  /** The best found so far for each row of DAYS. */
  private static final class Best {
    final int n;
    final int first;
    final int[] feasts;
    final int limit;
    final int[] tokens;
    final int[] plain;
    final int[][] within;
    final long[] ways;
    final Wording[] words;

    Best(int n, int first, int[] feasts, int limit) {
      this.n = n;
      this.first = first;
      this.feasts = feasts;
      this.limit = limit;
      tokens = new int[1 << n];
      plain = new int[1 << n];
      within = new int[5][1 << n];
      ways = new long[1 << n];
      words = new Wording[1 << n];
      Arrays.fill(tokens, 99);
      Arrays.fill(plain, 99);
      for (int[] w : within) {
        Arrays.fill(w, 99);
      }
    }

    void tell(Wording w, int shown, int cost) {
      int days = shown & ~w.nd & ~feastDays(w.nf) | w.ad | feastDays(w.af);
      if (w.nf == 0 && w.af == 0) {
        plain[days] = Math.min(plain[days], cost);
      }
      for (int k = w.spans.size(); k < 5; k++) {
        within[k][days] = Math.min(within[k][days], cost);
      }
      if (cost < tokens[days]) {
        tokens[days] = cost;
        ways[days] = 1;
        words[days] = w;
      } else if (cost == tokens[days]) {
        ways[days]++;
        if (w.ahead(words[days])) {
          words[days] = w;
        }
      }
    }

    int feastDays(int bits) {
      int days = 0;
      for (int f = 0; f < feasts.length; f++) {
        days |= (bits >> f & 1) != 0 ? feasts[f] : 0;
      }
      return days;
    }

    void spans(List<Span> had, int from, int shown, int cost) {
      entries(new ArrayList<>(had), shown, cost);
      for (int a = from; a < n; a++) {
        for (int b = a; b < n; b++) {
          for (int m = 1; m < 128; m++) {
            int more = cost + SearchTest.tokens(pattern(m)) + (a > 0 ? 2 : 0) + (b < n - 1 ? 2 : 0);
            if (more <= limit) {
              int days = shown;
              for (int d = a; d <= b; d++) {
                days |= (m >> (first + d) % 7 & 1) << d;
              }
              had.add(new Span(a, b, m));
              spans(had, b + 1, days, more);
              had.remove(had.size() - 1);
            }
          }
        }
      }
    }

    private void entries(List<Span> spans, int shown, int cost) {
      int all = 1 << feasts.length;
      for (int nf = 0; nf < all; nf++) {
        for (int af = 0; af < all; af++) {
          for (int nd = 0; nd < 1 << n; nd++) {
            if (cost + Integer.bitCount(nd) > limit) {
              continue;
            }
            for (int ad = 0; ad < 1 << n; ad++) {
              if (cost + Integer.bitCount(nd) + Integer.bitCount(ad) > limit) {
                continue;
              }
              Wording w = new Wording(spans, nf, nd, af, ad, false);
              int sum = cost + w.noted();
              if (sum > 0 && sum <= limit) {
                tell(w, shown, sum);
              }
            }
          }
        }
      }
    }
  }

  private static void all(int n, int first, int[] feasts, int limit) {
    Best best = new Best(n, first, feasts, limit);
    best.tell(new Wording(List.of(), 0, 0, 0, 0, true), 0, 1);
    best.spans(new ArrayList<>(), 0, 0, 0);
    for (int days = 0; days < 1 << n; days++) {
      String at = deskText(n, first, feasts) + " days " + days + " ";
      DayWords x = Check.made(deskText(n, first, feasts));
      Check.sets(x, 0, Check.also(days));
      if (best.tokens[days] < 99) {
        compare(at, x, n, best.tokens[days], best.ways[days], best.words[days]);
      }
      if (best.plain[days] < 99) {
        CHECK.due(at + "plain", x.plain(0), best.plain[days]);
      }
      for (int k = 0; k < 5; k++) {
        if (best.within[k][days] < 99) {
          CHECK.due(at + "within " + k, x.within(0, k), best.within[k][days]);
        }
      }
      for (int d = 0; d < n; d++) {
        int there = best.tokens[days ^ 1 << d];
        if (there < 99) {
          CHECK.due(at + "other " + d, x.other(0, d), there);
        }
      }
      for (int s = -n; s <= n; s++) {
        int moved = 0;
        for (int d = 0; d < n; d++) {
          if ((days >> d & 1) != 0 && d + s >= 0 && d + s < n) {
            moved |= 1 << d + s;
          }
        }
        if (best.tokens[moved] < 99) {
          CHECK.due(at + "shift " + s, x.shift(0, s), best.tokens[moved]);
        }
      }
    }
  }

  private static void compare(String at, DayWords x, int n, int tokens, long ways, Wording w) {
    CHECK.due(at + "words", x.words(0), tokens);
    CHECK.due(at + "least", x.least(x.days(0)), tokens);
    CHECK.due(at + "ways", x.ways(0), ways);
    CHECK.due(at + "text", Check.text(x, 0), w.text(n));
    CHECK.due(at + "tokens of the text", tokens(w.text(n)), tokens);
    CHECK.due(at + "spans", x.spans(0), w.spans.size());
    for (int k = 0; k < w.spans.size(); k++) {
      CHECK.due(at + "first " + k, x.span(0, k, 0), w.spans.get(k).first);
      CHECK.due(at + "last " + k, x.span(0, k, 1), w.spans.get(k).last);
      CHECK.due(at + "weekdays " + k, x.span(0, k, 2), w.spans.get(k).mask);
    }
    CHECK.due(at + "span behind", x.span(0, w.spans.size(), 2), -1);
    CHECK.due(at + "not feasts", x.nots(0, 0), w.nf);
    CHECK.due(at + "not days", x.nots(0, 1), w.nd);
    CHECK.due(at + "also feasts", x.alsos(0, 0), w.af);
    CHECK.due(at + "also days", x.alsos(0, 1), w.ad);
    int days = x.days(0);
    CHECK.due(at + "read back", Check.tells(x, w.text(n)), Integer.bitCount(days));
    CHECK.due(at + "days read back", x.told(0), days);
    CHECK.due(at + "tokens read back", x.told(1), tokens);
    CHECK.due(at + "worse", x.worse(), 0);
  }

  // The plain search over a long period: forward, every SPAN and pattern, every use of FEASTS.

  private static void plainSearch(Random random, int n, int first, int feastCount, int rounds) {
    int full = (1 << n) - 1;
    int[] feasts = new int[feastCount];
    for (int f = 0; f < feastCount; f++) {
      feasts[f] = random.nextInt(full) & random.nextInt(full) | 1 << random.nextInt(n);
    }
    for (int round = 0; round < rounds; round++) {
      int days = someDays(random, n, first, feasts) & full;
      if (days != 0) {
        plainSearch(n, first, feasts, days);
      }
    }
  }

  private static void plainSearch(int n, int first, int[] feasts, int days) {
    Plain p = new Plain(n, first, feasts, days);
    p.search();
    String at = deskText(n, first, feasts) + " days " + days + " ";
    DayWords x = Check.made(deskText(n, first, feasts));
    Check.sets(x, 0, Check.also(days));
    compare(at, x, n, p.tokens, p.ways, p.words);
    CHECK.due(at + "plain", x.plain(0), p.plain);
    for (int k = 0; k < 5; k++) {
      CHECK.due(at + "within " + k, x.within(0, k), p.within[k]);
    }
  }

  /** DAYS whose WORDS have two SPANS, with DAYS left out of both. */
  private static void twoSpans() {
    int[] feasts = {0b1001000001000, 0b100000110000000000000};
    int[][] cases = {{2, 29459965}, {4, 200331427}, {0, 42405307}, {6, 236741607}, {5, 251450793}, {4, 232024209}};
    for (int[] c : cases) {
      plainSearch(28, c[0], feasts, c[1]);
    }
  }

  /** DAYS whose WORDS, or their ways, are lost if the cost of a SPAN is bounded by one TOKEN too few or too many. */
  private static void nearTheBound() {
    plainSearch(24, 0, new int[] {}, 5803123);
    plainSearch(22, 1, new int[] {}, 3173147);
    plainSearch(21, 2, new int[] {bits(0, 2, 6, 7)}, 995545);
    plainSearch(28, 1, new int[] {bits(14, 25)}, 222236833);
    plainSearch(28, 6, new int[] {bits(10, 19, 23, 26), bits(0, 14, 21, 25, 26)}, 156696812);
    plainSearch(28, 6, new int[] {bits(1, 3, 21, 22, 23, 26, 27), bits(2, 5, 9, 15)}, 52339008);
    plainSearch(28, 5, new int[] {bits(2, 4, 6, 9, 10, 22, 24, 27), bits(0, 3, 5, 10, 11, 13, 18, 21, 22)}, 193987286);
  }

  private static int bits(int... days) {
    int sum = 0;
    for (int d : days) {
      sum |= 1 << d;
    }
    return sum;
  }

  /** The shortest and the longest PERIOD, FEASTS of one DAY and of all, DAYS of the ends alone and of every other one. */
  private static void farEnds() {
    int full = (1 << 28) - 1;
    int others = 0x5555555;
    int[][] feasts = {{}, {full}, {1, 1 << 27}, {others, others << 1}, {full - 1, full >> 1}};
    int[] days = {1, 1 << 27, 1 | 1 << 27, full, full - 1, full >> 1, others, others << 1, 1 << 13 | 1 << 14, full ^ 3 << 13};
    for (int[] f : feasts) {
      for (int i = 0; i < days.length; i++) {
        plainSearch(28, i % 7, f, days[i]);
      }
    }
    for (int first = 0; first < 7; first++) {
      plainSearch(1, first, new int[] {}, 1);
      plainSearch(1, first, new int[] {1, 1}, 1);
      plainSearch(2, first, new int[] {1, 3}, 3);
      plainSearch(7, first, new int[] {1, 64}, 0b1000001);
      plainSearch(8, first, new int[] {129, 126}, 0b10000001);
    }
  }

  /** In place of a longer or a shorter DESK all is found as by a new object. */
  private static void deskBehindDesk(Random random) {
    for (int round = 0; round < 40; round++) {
      DayWords used = new DayWords();
      for (int desk = 0; desk < 8; desk++) {
        int n = 1 + random.nextInt(28);
        int first = random.nextInt(7);
        int[] feasts = new int[random.nextInt(3)];
        for (int f = 0; f < feasts.length; f++) {
          feasts[f] = 1 << random.nextInt(n) | 1 << random.nextInt(n);
        }
        String text = deskText(n, first, feasts);
        int days = someDays(random, n, first, feasts) & (1 << n) - 1;
        DayWords made = Check.made(text);
        Check.desk(used, text);
        Check.sets(made, 0, Check.also(days));
        Check.sets(used, 0, Check.also(days));
        String at = "behind another desk " + text + " days " + days + " ";
        CHECK.due(at + "words", used.words(0), made.words(0));
        CHECK.due(at + "ways", used.ways(0), made.ways(0));
        CHECK.due(at + "plain", used.plain(0), made.plain(0));
        CHECK.due(at + "within", used.within(0, 2), made.within(0, 2));
        CHECK.due(at + "not days", used.nots(0, 1), made.nots(0, 1));
        CHECK.due(at + "also days", used.alsos(0, 1), made.alsos(0, 1));
        CHECK.due(at + "spans", used.spans(0), made.spans(0));
        CHECK.due(at + "length", used.length(0), made.length(0));
      }
    }
  }

  private static int someDays(Random random, int n, int first, int[] feasts) {
    if (random.nextInt(4) == 0) {
      return random.nextInt() & random.nextInt();
    }
    int days = 0;
    int mask = random.nextInt(128);
    for (int d = 0; d < n; d++) {
      if (random.nextInt(10) == 0) {
        mask = random.nextInt(128);
      }
      days |= (mask >> (first + d) % 7 & 1) << d;
    }
    for (int feast : feasts) {
      int use = random.nextInt(3);
      days = use == 0 ? days & ~feast : use == 1 ? days | feast : days;
    }
    return random.nextInt(2) == 0 ? days : days ^ 1 << random.nextInt(n);
  }

  private static final int LAYERS = 8;

  /** Costs of the tail from a DAY on, for each of: SPANS left, not told, also told. */
  private static final class Plain {
    final int n;
    final int first;
    final int[] feasts;
    final int days;
    int tokens = 99;
    int plain = 99;
    long ways = 0;
    Wording words = null;
    final int[] within = {99, 99, 99, 99, 99};
    private int[][][] cost;
    private long[][][] many;
    private final int[] masked = new int[128];
    private int nfDays;
    private int afDays;

    Plain(int n, int first, int[] feasts, int days) {
      this.n = n;
      this.first = first;
      this.feasts = feasts;
      this.days = days;
      for (int m = 0; m < 128; m++) {
        for (int d = 0; d < n; d++) {
          masked[m] |= (m >> (first + d) % 7 & 1) << d;
        }
      }
    }

    void search() {
      int all = 1 << feasts.length;
      for (int nf = 0; nf < all; nf++) {
        for (int af = 0; af < all; af++) {
          nfDays = union(nf);
          afDays = union(af);
          if ((afDays & ~days) == 0) {
            weigh(nf, af);
          }
        }
      }
    }

    private int union(int bits) {
      int sum = 0;
      for (int f = 0; f < feasts.length; f++) {
        sum |= (bits >> f & 1) != 0 ? feasts[f] : 0;
      }
      return sum;
    }

    private void weigh(int nf, int af) {
      // Behind the first each SPAN costs three TOKENS or more: seven are as good as any number here.
      cost = new int[LAYERS][n + 1][4];
      many = new long[LAYERS][n + 1][4];
      for (int left = 0; left < LAYERS; left++) {
        for (int d = n - 1; d >= -1; d--) {
          for (int s = 0; s < 4; s++) {
            cell(left, d + 1, s);
          }
        }
      }
      int s = (nf != 0 ? 1 : 0) + (af != 0 ? 2 : 0);
      int named = Integer.bitCount(nf) + Integer.bitCount(af) + Integer.bitCount(s);
      for (int k = 0; k < 5; k++) {
        within[k] = Math.min(within[k], named + cost[k][0][s]);
      }
      int sum = named + cost[LAYERS - 1][0][s];
      if (nf == 0 && af == 0) {
        plain = sum;
      }
      if (sum < tokens) {
        tokens = sum;
        ways = 0;
        words = follow(nf, af, s);
      }
      if (sum == tokens) {
        ways += many[LAYERS - 1][0][s];
      }
    }

    private void cell(int left, int d, int s) {
      if (d == n) {
        cost[left][d][s] = 0;
        many[left][d][s] = 1;
        return;
      }
      int least = 999;
      long count = 0;
      for (int[] o : options(left, d, s)) {
        int c = o[0];
        long k = many[o[1]][o[2]][o[3]];
        if (c < least) {
          least = c;
          count = k;
        } else if (c == least) {
          count += k;
        }
      }
      cost[left][d][s] = least;
      many[left][d][s] = count;
    }

    /** Each option: its cost to the end, the cell behind it, then its SPAN and DAYS told. */
    private List<int[]> options(int left, int d, int s) {
      List<int[]> list = new ArrayList<>();
      option(list, left, d, s, d, 0);
      for (int b = d; b < n && left > 0; b++) {
        for (int m = 1; m < 128; m++) {
          option(list, left, d, s, b, m);
        }
      }
      return list;
    }

    private void option(List<int[]> list, int left, int d, int s, int b, int m) {
      int range = (1 << b + 1) - (1 << d);
      int shown = range & masked[m] & ~nfDays;
      int nd = shown & ~days;
      int ad = range & days & ~shown & ~afDays;
      int to = s | (nd != 0 ? 1 : 0) | (ad != 0 ? 2 : 0);
      int below = m == 0 ? left : left - 1;
      int c = cost[below][b + 1][to] + Integer.bitCount(nd) + Integer.bitCount(ad) + Integer.bitCount(to ^ s);
      if (m != 0) {
        c += SIZE[m] + (d > 0 ? 2 : 0) + (b < n - 1 ? 2 : 0);
      }
      list.add(new int[] {c, below, b + 1, to, d, b, m, nd, ad});
    }

    private Wording follow(int nf, int af, int start) {
      List<Span> spans = new ArrayList<>();
      int nd = 0;
      int ad = 0;
      int left = LAYERS - 1;
      int d = 0;
      int s = start;
      while (d < n) {
        for (int[] o : options(left, d, s)) {
          if (o[0] == cost[left][d][s]) {
            if (o[6] != 0) {
              spans.add(new Span(o[4], o[5], o[6]));
            }
            nd |= o[7];
            ad |= o[8];
            left = o[1];
            d = o[2];
            s = o[3];
            break;
          }
        }
      }
      return new Wording(spans, nf, nd, af, ad, false);
    }
  }

  private static final int[] SIZE = new int[128];

  static {
    for (int m = 1; m < 128; m++) {
      SIZE[m] = tokens(pattern(m));
    }
  }
}
