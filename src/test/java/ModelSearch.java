import java.util.ArrayList;
import java.util.Arrays;
import java.util.List;

/**
 * The shortest WORDINGS of DAYS, as the model finds them: FEASTS behind not and also are guessed,
 * and whether the words not and also stand at all; each guess then has costs that only add up, DAY
 * by DAY. (Where a word is guessed and nothing stands behind it, the guess without it is shorter.)
 */
final class ModelSearch {
  private static final String[] WEEK = {"mo", "tu", "we", "th", "fr", "sa", "su"};
  private static final int NO = 10000;
  /** The row for any number of SPANS, behind those for 0 .. 4 at most. */
  private static final int MANY = 5;

  /** SPANS: first DAY, last DAY, weekdays. */
  record Wording(boolean never, int notFeasts, int alsoFeasts, List<int[]> spans, int notDays, int alsoDays) {}

  int tokens = NO;
  int plain = NO;
  long ways = 0;
  Wording best = null;
  final int[] within = {NO, NO, NO, NO, NO};
  private final int period;
  private final int first;
  private final List<String> names;
  private final int[] feasts;
  private final int target;

  // One guess.
  private int left;
  private int put;
  private boolean mayLeave;
  private boolean mayPut;
  /** By SPANS used at most, and DAY: fewest TOKENS from there on, ways, what is taken first. */
  private int[][] costs;
  private long[] many;
  private int[][] choice;

  ModelSearch(int period, int first, List<String> names, int[] feasts, int target) {
    this.period = period;
    this.first = first;
    this.names = List.copyOf(names);
    this.feasts = feasts;
    this.target = target;
    if (target == 0) {
      noDays();
    } else {
      someDays();
    }
  }

  /** By one TOKEN: never, or one weekday alone that the PERIOD has not. */
  private void noDays() {
    tell(1, 1, new Wording(true, 0, 0, List.of(), 0, 0), true);
    Arrays.fill(within, 1);
    for (int w = 0; w < 7; w++) {
      int day = 0;
      while (day < period && !hasDay(1 << w, day)) {
        day++;
      }
      ways += day == period ? 1 : 0;
    }
  }

  private void someDays() {
    int uses = 1 << feasts.length;
    for (int nf = 0; nf < uses; nf++) {
      for (int af = 0; af < uses; af++) {
        for (int words = 0; words < 4; words++) {
          guess(nf, af, (words & 1) != 0, (words & 2) != 0);
        }
      }
    }
  }

  private int feastDays(int bits) {
    int sum = 0;
    for (int f = 0; f < feasts.length; f++) {
      sum |= (bits >> f & 1) != 0 ? feasts[f] : 0;
    }
    return sum;
  }

  private void guess(int nf, int af, boolean not, boolean also) {
    if (nf != 0 && !not || af != 0 && !also || (feastDays(af) & ~target) != 0) {
      return;
    }
    left = feastDays(nf);
    put = feastDays(af);
    mayLeave = not;
    mayPut = also;
    int extra = (not ? 1 : 0) + (also ? 1 : 0) + Integer.bitCount(nf) + Integer.bitCount(af);
    fill();
    for (int k = 0; k < 5; k++) {
      within[k] = Math.min(within[k], extra + costs[k][0]);
    }
    if (costs[MANY][0] < NO) {
      tell(extra + costs[MANY][0], many[0], follow(nf, af), nf == 0 && af == 0);
    }
  }

  private void tell(int cost, long count, Wording w, boolean isPlain) {
    plain = isPlain ? Math.min(plain, cost) : plain;
    if (cost < tokens) {
      tokens = cost;
      ways = 0;
      best = null;
    }
    if (cost == tokens) {
      ways += count;
      best = best == null || isAhead(w, best) ? w : best;
    }
  }

  private static boolean isAhead(Wording a, Wording b) {
    if (a.never || b.never) {
      return a.never;
    }
    if (a.notFeasts != b.notFeasts) {
      return a.notFeasts < b.notFeasts;
    }
    if (a.alsoFeasts != b.alsoFeasts) {
      return a.alsoFeasts < b.alsoFeasts;
    }
    for (int k = 0; k < Math.max(a.spans.size(), b.spans.size()); k++) {
      if (k >= a.spans.size() || k >= b.spans.size()) {
        return k >= a.spans.size();
      }
      int[] s = a.spans.get(k);
      int[] t = b.spans.get(k);
      if (s[0] != t[0]) {
        return s[0] > t[0];
      }
      if (s[1] != t[1]) {
        return s[1] < t[1];
      }
      if (s[2] != t[2]) {
        return s[2] < t[2];
      }
    }
    return false;
  }

  private boolean isTarget(int day) {
    return (target >> day & 1) != 0;
  }

  /** What a DAY costs by itself, if a SPAN with its weekday is over it or not. */
  private int dayCost(int day, boolean covered) {
    boolean runs = covered && (left >> day & 1) == 0;
    if (isTarget(day)) {
      return runs || (put >> day & 1) != 0 ? 0 : mayPut ? 1 : NO;
    }
    return !runs ? 0 : mayLeave ? 1 : NO;
  }

  private boolean hasDay(int weekdays, int day) {
    return (weekdays >> (first + day) % 7 & 1) != 0;
  }

  private static String pattern(int weekdays) {
    if (weekdays == 127) {
      return "daily";
    }
    StringBuilder bits = new StringBuilder();
    for (int w = 0; w < 7; w++) {
      bits.append((weekdays >> w & 1) != 0 ? (char) ('0' + w) : ' ');
    }
    StringBuilder text = new StringBuilder();
    for (String row : bits.toString().trim().split(" +")) {
      if (row.length() > 2) {
        text.append(WEEK[row.charAt(0) - '0']).append(" - ").append(WEEK[row.charAt(row.length() - 1) - '0']).append(' ');
      } else {
        row.chars().forEach(w -> text.append(WEEK[w - '0']).append(' '));
      }
    }
    return text.toString().trim();
  }

  private static final int[] PATTERN_TOKENS = new int[128];

  static {
    for (int m = 1; m < 128; m++) {
      PATTERN_TOKENS[m] = pattern(m).split(" ").length;
    }
  }

  private void fill() {
    costs = new int[MANY + 1][period + 1];
    many = new long[period + 1];
    choice = new int[period + 1][];
    many[period] = 1;
    for (int day = period - 1; day >= 0; day--) {
      for (int k = 0; k <= MANY; k++) {
        costs[k][day] = Math.min(NO, dayCost(day, false) + costs[k][day + 1]);
      }
      many[day] = many[day + 1];
      choice[day] = null;
      for (int weekdays = 1; weekdays < 128; weekdays++) {
        int sum = PATTERN_TOKENS[weekdays] + (day > 0 ? 2 : 0);
        for (int last = day; last < period; last++) {
          sum += dayCost(last, hasDay(weekdays, last));
          offer(day, last, weekdays, sum + (last < period - 1 ? 2 : 0));
        }
      }
    }
  }

  private void offer(int day, int last, int weekdays, int cost) {
    for (int k = 1; k < MANY; k++) {
      costs[k][day] = Math.min(costs[k][day], cost + costs[k - 1][last + 1]);
    }
    int sum = cost + costs[MANY][last + 1];
    if (sum < costs[MANY][day]) {
      costs[MANY][day] = sum;
      many[day] = 0;
      choice[day] = new int[] {day, last, weekdays};
    }
    if (sum == costs[MANY][day]) {
      many[day] += many[last + 1];
      int[] had = choice[day];
      if (had != null && (last < had[1] || last == had[1] && weekdays < had[2])) {
        choice[day] = new int[] {day, last, weekdays};
      }
    }
  }

  private Wording follow(int nf, int af) {
    List<int[]> spans = new ArrayList<>();
    int notDays = 0;
    int alsoDays = 0;
    int day = 0;
    while (day < period) {
      int[] span = choice[day] == null ? new int[] {day, day, 0} : choice[day];
      if (span[2] != 0) {
        spans.add(span);
      }
      for (; day <= span[1]; day++) {
        if (dayCost(day, hasDay(span[2], day)) > 0) {
          notDays |= isTarget(day) ? 0 : 1 << day;
          alsoDays |= isTarget(day) ? 1 << day : 0;
        }
      }
    }
    return new Wording(false, nf, af, spans, notDays, alsoDays);
  }

  /** WORDS as they are written. */
  String words() {
    if (best.never) {
      return "never";
    }
    List<String> parts = new ArrayList<>();
    for (int[] s : best.spans) {
      parts.add(pattern(s[2]));
      if (s[0] > 0) {
        parts.add("from " + s[0]);
      }
      if (s[1] < period - 1) {
        parts.add("to " + s[1]);
      }
    }
    row(parts, "not", best.notFeasts, best.notDays);
    row(parts, "also", best.alsoFeasts, best.alsoDays);
    return String.join(" ", parts);
  }

  private void row(List<String> parts, String word, int feastBits, int days) {
    if (feastBits != 0 || days != 0) {
      parts.add(word);
    }
    for (int f = 0; f < feasts.length; f++) {
      if ((feastBits >> f & 1) != 0) {
        parts.add(names.get(f));
      }
    }
    for (int d = 0; d < period; d++) {
      if ((days >> d & 1) != 0) {
        parts.add("" + d);
      }
    }
  }
}
