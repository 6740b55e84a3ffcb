import java.util.ArrayList;
import java.util.List;

/**
 * Terms I and II against a table of steps that is the tests' own: every row of TOKENS that can be
 * gone on with, and each TOKEN behind it, up to a length; the FAULT, its place, the DAYS, the TOKENS.
 */
public final class GrammarTest {
  private static final Check CHECK = new Check();
  private static final List<String> WEEK = List.of("mo", "tu", "we", "th", "fr", "sa", "su");
  private static final int LAST = 3;
  private static final int FIRST = 4;
  /** DAYS 0 .. 3 are fr sa su mo. */
  private static final String HEAD = "desk days 4 first fr ;";
  private static long told = 0;

  public static void main(String[] args) {
    String[] words = {"mo", "tu", "sa", "-", "daily", "from", "to", "not", "also", "0", "2", "3", "4", "ab", "zz", "never", ";"};
    Step start = new Step();
    start.names.add("ab");
    start.feasts.add(0b0110);
    alone(start, new ArrayList<>(), words, 9);
    String[] few = {"mo", "to", "from", "not", "1", "3", "also", "ab"};
    alone(start, new ArrayList<>(), few, 13);
    Step desk = new Step();
    desk.place = "line";
    desk.lines = 1;
    String[] lines = {"feast", "train", "at", ":", ";", "a", "mo", "never", "also", "3", "desk"};
    whole(desk, new ArrayList<>(), lines, 19);
    String[] feasts = {"feast", ";", "a", "b", "c", "daily", "abcdefghi", "0", "4"};
    whole(desk, new ArrayList<>(), feasts, 12);
    Step head = new Step();
    head.place = "desk";
    heads(head, new ArrayList<>(), new String[] {"desk", "days", "first", "mo", "su", "0", "1", "28", "29", ";", "train", "-"}, 8);
    CHECK.due("many rows are told", told > 100000 ? 1 : 0, 1);
    CHECK.finish("GrammarTest");
  }

  /** Where a row of TOKENS has come to: the next step, and what it must not tell again. */
  private static final class Step {
    String place = "wording";
    int lines = 0;
    int trains = 0;
    int fault = 0;
    int days = 0;
    List<String> names = new ArrayList<>();
    List<Integer> feasts = new ArrayList<>();
    // Of the WORDING that is being told.
    int weekday = -1;
    int pattern = 0;
    boolean behind = false;
    int ahead = -1;
    int from = 0;
    int toldDays = 0;
    int toldFeasts = 0;
    int left = 0;
    int put = 0;

    Step copy() {
      Step s = new Step();
      s.place = place;
      s.lines = lines;
      s.trains = trains;
      s.days = days;
      s.names.addAll(names);
      s.feasts.addAll(feasts);
      s.weekday = weekday;
      s.pattern = pattern;
      s.behind = behind;
      s.ahead = ahead;
      s.from = from;
      s.toldDays = toldDays;
      s.toldFeasts = toldFeasts;
      s.left = left;
      s.put = put;
      return s;
    }

    Step bad(int number) {
      fault = number;
      return this;
    }

    Step to(String next) {
      place = next;
      return this;
    }

    boolean mayEnd() {
      return switch (place) {
        case "never", "from day", "to day", "not entry", "also entry" -> true;
        case "item", "row", "daily" -> !behind;
        default -> false;
      };
    }

    int allDays() {
      int shown = days;
      if (List.of("item", "row", "daily").contains(place)) {
        shown |= span(0, LAST);
      } else if (place.equals("from day")) {
        shown |= span(from, LAST);
      }
      return shown & ~left | put;
    }

    int span(int first, int last) {
      int sum = 0;
      for (int d = first; d <= last; d++) {
        sum |= (pattern >> (FIRST + d) % 7 & 1) << d;
      }
      return sum;
    }

    /** The step by one TOKEN; its FAULT is set if it can't be taken. */
    Step by(String t) {
      Step s = copy();
      if (t.equals(";") && lines > 0 && (mayEnd() || List.of("head end", "feast day").contains(place))) {
        s.lines++;
        s.days = allDays();
        s.left = 0;
        s.put = 0;
        return s.to("line");
      }
      return switch (place) {
        case "desk" -> t.equals("desk") ? s.to("days") : s.bad(1);
        case "days" -> t.equals("days") ? s.to("n") : s.bad(1);
        case "n" -> number(t) < 0 ? s.bad(1) : number(t) < 1 || number(t) > 28 ? s.bad(2) : s.to("first");
        case "first" -> t.equals("first") ? s.to("w") : s.bad(1);
        case "w" -> WEEK.contains(t) ? s.to("head end") : s.bad(1);
        case "head" -> s.bad(1);
        case "line" -> line(s, t);
        case "name" -> name(s, t);
        case "feast day", "feast" -> feastDay(s, t);
        case "route" -> number(t) < 0 ? s.bad(1) : number(t) > 9 ? s.bad(2) : s.to("at");
        case "at" -> t.equals("at") ? s.to("minute") : s.bad(1);
        case "minute" -> number(t) < 0 ? s.bad(1) : number(t) > 1439 ? s.bad(2) : s.to(":");
        case ":" -> t.equals(":") ? fresh(s) : s.bad(1);
        default -> wording(s, t);
      };
    }

    private Step line(Step s, String t) {
      if (t.equals("feast")) {
        return names.size() == 2 ? s.bad(3) : s.to("name");
      }
      if (t.equals("train")) {
        s.trains++;
        return trains == 6 ? s.bad(3) : s.to("route");
      }
      return s.bad(1);
    }

    private Step name(Step s, String t) {
      if (!Character.isLetter(t.charAt(0))) {
        return s.bad(1);
      }
      boolean taken = WEEK.contains(t) || List.of("desk", "days", "first", "feast", "train", "at", "never", "daily", "from", "to", "not", "also").contains(t);
      if (taken || t.length() > 8 || names.contains(t)) {
        return s.bad(2);
      }
      s.names.add(t);
      s.feasts.add(0);
      return s.to("feast");
    }

    private Step feastDay(Step s, String t) {
      if (number(t) < 0) {
        return s.bad(1);
      }
      int top = feasts.size() - 1;
      if (number(t) > LAST || (feasts.get(top) >> number(t) & 1) != 0) {
        return s.bad(2);
      }
      s.feasts.set(top, feasts.get(top) | 1 << number(t));
      return s.to("feast day");
    }

    private static Step fresh(Step s) {
      s.days = 0;
      s.left = 0;
      s.put = 0;
      s.behind = false;
      s.ahead = -1;
      s.from = 0;
      return s.to("wording");
    }

    private Step wording(Step s, String t) {
      boolean spans = List.of("wording", "to day").contains(place);
      if (spans && t.equals("daily") || spans && WEEK.contains(t)) {
        s.behind = place.equals("to day");
        s.from = 0;
        s.weekday = t.equals("daily") ? 7 : WEEK.indexOf(t);
        s.pattern = t.equals("daily") ? 127 : 1 << s.weekday;
        return s.to(t.equals("daily") ? "daily" : "item");
      }
      if (t.equals("never") && place.equals("wording")) {
        return s.to("never");
      }
      boolean pattern = List.of("item", "row", "daily").contains(place);
      if (pattern && t.equals("from")) {
        return s.to("from");
      }
      if (t.equals("to") && (pattern && !behind || place.equals("from day"))) {
        return s.to("to");
      }
      boolean spanEnds = place.equals("wording") || place.equals("to day") || place.equals("from day") || pattern && !behind;
      if (t.equals("not") && spanEnds || t.equals("also") && (spanEnds || place.equals("not entry"))) {
        s.days = place.equals("not entry") ? days : place.equals("wording") ? 0 : place.equals("to day") ? days : days | span(place.equals("from day") ? from : 0, LAST);
        s.toldDays = 0;
        s.toldFeasts = 0;
        return s.to(t);
      }
      return switch (place) {
        case "item", "row" -> item(s, t);
        case "-" -> !WEEK.contains(t) ? s.bad(1) : WEEK.indexOf(t) <= weekday ? s.bad(2) : s.row(WEEK.indexOf(t));
        case "from" -> number(t) < 0 ? s.bad(1) : number(t) > LAST || number(t) <= ahead ? s.bad(2) : s.begin(number(t));
        case "to" -> number(t) < 0 ? s.bad(1) : number(t) > LAST || number(t) < from ? s.bad(2) : s.close(number(t));
        case "not", "not entry" -> entry(s, t, "not entry");
        case "also", "also entry" -> entry(s, t, "also entry");
        default -> s.bad(1);
      };
    }

    private Step item(Step s, String t) {
      if (t.equals("-") && place.equals("item")) {
        return s.to("-");
      }
      if (!WEEK.contains(t)) {
        return s.bad(1);
      }
      if (WEEK.indexOf(t) <= weekday) {
        return s.bad(2);
      }
      s.weekday = WEEK.indexOf(t);
      s.pattern |= 1 << s.weekday;
      return s.to("item");
    }

    private Step row(int end) {
      for (int w = weekday; w <= end; w++) {
        pattern |= 1 << w;
      }
      weekday = end;
      return to("row");
    }

    private Step begin(int day) {
      from = day;
      return to("from day");
    }

    private Step close(int day) {
      days |= span(from, day);
      ahead = day;
      return to("to day");
    }

    private Step entry(Step s, String t, String next) {
      int bits;
      if (number(t) >= 0) {
        if (number(t) > LAST || (toldDays >> number(t) & 1) != 0) {
          return s.bad(2);
        }
        bits = 1 << number(t);
        s.toldDays |= bits;
      } else if (names.contains(t)) {
        int feast = names.indexOf(t);
        if ((toldFeasts >> feast & 1) != 0) {
          return s.bad(2);
        }
        bits = feasts.get(feast);
        s.toldFeasts |= 1 << feast;
      } else {
        return s.bad(1);
      }
      if (next.equals("not entry")) {
        s.left |= bits;
      } else {
        s.put |= bits;
      }
      return s.to(next);
    }

    private static int number(String t) {
      return Character.isDigit(t.charAt(0)) ? Integer.parseInt(t) : -1;
    }
  }

  private static DayWords some = null;
  private static int uses = 0;

  /** One object for some texts; what it answers behind its 512th call is free. */
  private static DayWords object() {
    uses++;
    if (some == null || uses % 20 == 0) {
      some = Check.made(HEAD + "feast ab 1 2;");
    }
    return some;
  }

  private static void alone(Step at, List<String> row, String[] words, int more) {
    String text = String.join(" ", row);
    DayWords x = object();
    int answer = Check.tells(x, text);
    if (at.mayEnd()) {
      CHECK.due("tells " + text, answer, Integer.bitCount(at.allDays()));
      CHECK.due("days of " + text, x.told(0), at.allDays());
      CHECK.due("tokens of " + text, x.told(1), row.size());
    } else {
      CHECK.due("tells " + text, answer, -4);
      CHECK.due("fault of " + text, x.told(2), 1);
      CHECK.due("place of " + text, x.told(3), text.length());
    }
    told++;
    for (String word : words) {
      Step next = at.by(word);
      row.add(word);
      if (next.fault == 0 && more > 1) {
        alone(next, row, words, more - 1);
      } else if (next.fault != 0) {
        String longer = String.join(" ", row) + (more % 2 == 0 ? " # never" : "");
        x = object();
        CHECK.due("tells " + longer, Check.tells(x, longer), -4);
        CHECK.due("fault of " + longer, x.told(2), next.fault);
        CHECK.due("place of " + longer, x.told(3), text.isEmpty() ? 0 : text.length() + 1);
        told++;
      }
      row.remove(row.size() - 1);
    }
  }

  private static void whole(Step at, List<String> row, String[] words, int more) {
    told(at, HEAD + " ", row, words, more);
    for (String word : words) {
      Step next = at.by(word);
      if (next.fault == 0 && more > 1) {
        row.add(word);
        whole(next, row, words, more - 1);
        row.remove(row.size() - 1);
      }
    }
  }

  private static void heads(Step at, List<String> row, String[] words, int more) {
    if (!row.isEmpty()) {
      told(at, "", row, words, more);
    }
    for (String word : words) {
      Step next = at.by(word);
      if (word.equals(";") && at.place.equals("head end")) {
        next = at.copy().to("line");
      }
      if (next.fault == 0 && more > 1 && next.lines == 0) {
        row.add(word);
        heads(next, row, words, more - 1);
        row.remove(row.size() - 1);
      }
    }
  }

  /** The DESK told so far, and with each TOKEN that can't stand behind it. */
  private static void told(Step at, String head, List<String> row, String[] words, int more) {
    String text = head + String.join(" ", row);
    DayWords x = new DayWords();
    int answer = Check.desk(x, text);
    told++;
    if (at.place.equals("line")) {
      CHECK.due("desk " + text, answer, Math.max(1, at.lines));
      CHECK.due("feasts of " + text, x.count(2), at.names.size());
      CHECK.due("trains of " + text, x.count(3), at.trains);
      for (int f = 0; f < at.feasts.size() && answer > 0; f++) {
        CHECK.due("feast of " + text, x.feast(f), at.feasts.get(f));
      }
      if (at.trains > 0) {
        CHECK.due("days of " + text, x.days(at.trains - 1), at.allDays());
      }
    } else {
      CHECK.due("desk " + text, answer, -4);
      CHECK.due("fault of " + text, x.fault(0), 1);
      CHECK.due("place of " + text, x.fault(1), text.length());
    }
    for (String word : words) {
      int fault = at.place.equals("head end") && word.equals(";") ? 0 : at.by(word).fault;
      if (fault != 0) {
        String longer = text + " " + word + (more % 2 == 0 ? " 99 #" : "");
        CHECK.due("desk " + longer, Check.desk(x, longer), -4);
        CHECK.due("fault of " + longer, x.fault(0), fault);
        CHECK.due("place of " + longer, x.fault(1), text.length() + 1);
        told++;
      }
    }
  }
}
