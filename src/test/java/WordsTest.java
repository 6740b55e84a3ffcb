/** Promises 18 to 30 by hand: WORDS of DAYS, and their wrong arguments. SearchTest has the rest. */
public final class WordsTest {
  private static final Check CHECK = new Check();

  public static void main(String[] args) {
    texts();
    oneBehindTheOther();
    severalShortest();
    arguments();
    limits();
    CHECK.finish("WordsTest");
  }

  private static void written(DayWords x, String told, String want) {
    CHECK.due("sets " + told, Check.sets(x, 0, told) >= 0 ? 1 : 0, 1);
    CHECK.due("text of " + told, Check.text(x, 0), want);
    CHECK.due("length of " + told, x.length(0), want.length());
    CHECK.due("words of " + told, x.words(0), want.split(" ").length);
    CHECK.due("sign behind " + told, x.sign(0, want.length()), -1);
    CHECK.due("sign far behind " + told, x.sign(0, Integer.MAX_VALUE), -1);
  }

  private static void texts() {
    String desk = "desk days 28 first mo;feast xmas 12 20 27;feast newyear 17 18 21;train 1 at 1:never;";
    DayWords x = Check.made(desk);
    written(x, "never", "never");
    written(x, "mo not 0 7 14 21", "never");
    written(x, "daily", "daily");
    written(x, "mo - su", "daily");
    written(x, "mo tu", "mo tu");
    written(x, "mo - tu", "mo tu");
    written(x, "mo tu we", "mo - we");
    written(x, "mo tu we fr sa su", "mo - we fr - su");
    written(x, "tu - th sa su", "tu - th sa su");
    written(x, "daily not xmas", "daily not xmas");
    written(x, "daily not xmas newyear", "daily not xmas newyear");
    written(x, "daily not newyear xmas 3", "daily not xmas newyear 3");
    written(x, "mo also xmas", "mo also xmas");
    x = Check.made(desk);
    written(x, "mo also xmas newyear", "mo also xmas newyear");
    written(x, "mo - fr not newyear also xmas", "mo - fr not newyear also xmas");
    written(x, "also 27", "also 27");
    written(x, "also 26 3", "also 3 26");
    written(x, "daily from 3 to 25", "daily from 3 to 25");
    written(x, "daily to 13", "daily to 13");
    written(x, "daily not 8", "daily not 8");
    CHECK.due("nots", x.nots(0, 1), 256);
    x = Check.made("desk days 28 first mo;train 1 at 1:never;");
    written(x, "mo - fr from 12", "mo - fr from 14");
    CHECK.due("ways of it", x.ways(0), 3);
    written(x, "daily to 9 mo we from 14", "daily to 8 mo we from 9");
    CHECK.due("spans", x.spans(0), 2);
    CHECK.due("first", x.span(0, 0, 0), 0);
    CHECK.due("last", x.span(0, 0, 1), 8);
    CHECK.due("weekdays", x.span(0, 0, 2), 127);
    CHECK.due("second first", x.span(0, 1, 0), 9);
    CHECK.due("second last", x.span(0, 1, 1), 27);
    CHECK.due("second weekdays", x.span(0, 1, 2), 5);
  }

  /** Nothing of WORDS asked for before stays in those that are asked for next. */
  private static void oneBehindTheOther() {
    DayWords x = Check.made("desk days 28 first mo;feast a 5 13 27;feast b 8 16 24;train 1 at 1:mo - fr not b 2 also a;train 2 at 2:never;"
        + "train 3 at 3:daily not 7;train 4 at 4:daily not a b;");
    int[] trains = {0, 1, 2, 1, 0, 3, 1, 3, 2, 0, 0};
    String[] texts = {"mo - fr not b 2 also a", "never", "daily not 7", "daily not a b"};
    int[] notFeasts = {2, 0, 0, 3};
    int[] notDays = {4, 0, 128, 0};
    for (int t : trains) {
      CHECK.due("text of " + t, Check.text(x, t), texts[t]);
      CHECK.due("spans of " + t, x.spans(t), t == 1 ? 0 : 1);
      CHECK.due("not feasts of " + t, x.nots(t, 0), notFeasts[t]);
      CHECK.due("not days of " + t, x.nots(t, 1), notDays[t]);
      CHECK.due("also feasts of " + t, x.alsos(t, 0), t == 0 ? 1 : 0);
      CHECK.due("also days of " + t, x.alsos(t, 1), 0);
    }
    Check.sets(x, 1, "also a");
    CHECK.due("also a feast", x.alsos(1, 0), 1);
    x.undo();
    CHECK.due("also none", x.alsos(1, 0), 0);
    CHECK.due("text again", Check.text(x, 1), "never");
  }

  private static void severalShortest() {
    // never, and each weekday that the PERIOD has not.
    for (int n = 1; n <= 9; n++) {
      DayWords x = Check.made("desk days " + n + " first th;train 0 at 0:never;");
      CHECK.due("ways of never in " + n, x.ways(0), 1 + Math.max(0, 7 - n));
      CHECK.due("words of never in " + n, x.words(0), 1);
      CHECK.due("spans of never in " + n, x.spans(0), 0);
      CHECK.due("text of never in " + n, Check.text(x, 0), "never");
    }
    // One DAY of one: daily and its weekday, of which th is less.
    DayWords x = Check.made("desk days 1 first th;train 0 at 0:daily;");
    CHECK.due("ways of one day", x.ways(0), 2);
    CHECK.due("text of one day", Check.text(x, 0), "th");
    // FEASTS of the same DAYS: no FEAST first, then feast 0.
    x = Check.made("desk days 14 first mo;feast b 2 3;feast a 2 3;train 0 at 0:also a;train 0 at 0:daily not a;");
    CHECK.due("ways of two feasts", x.ways(0), 2);
    CHECK.due("text of two feasts", Check.text(x, 0), "also b");
    CHECK.due("alsos", x.alsos(0, 0), 1);
    CHECK.due("ways of two feasts not", x.ways(1), 2);
    CHECK.due("text of two feasts not", Check.text(x, 1), "daily not b");
    CHECK.due("nots", x.nots(1, 0), 1);
  }

  private static void arguments() {
    DayWords x = Check.made("desk days 14 first mo;feast b 2 3;train 0 at 0:mo - we not 8 also 4;");
    for (int t = -1; t < 2; t += 2) {
      CHECK.due("words", x.words(t), -2);
      CHECK.due("length", x.length(t), -2);
      CHECK.due("sign", x.sign(t, 0), -2);
      CHECK.due("ways", x.ways(t), -2);
      CHECK.due("spans", x.spans(t), -2);
      CHECK.due("span", x.span(t, 0, 0), -2);
      CHECK.due("nots", x.nots(t, 0), -2);
      CHECK.due("alsos", x.alsos(t, 0), -2);
      CHECK.due("within", x.within(t, 0), -2);
      CHECK.due("plain", x.plain(t), -2);
      CHECK.due("other", x.other(t, 0), -2);
      CHECK.due("shift", x.shift(t, 0), -2);
    }
    CHECK.due("sign -1", x.sign(0, -1), -2);
    CHECK.due("span k -1", x.span(0, -1, 0), -2);
    CHECK.due("span what 3", x.span(0, 0, 3), -2);
    CHECK.due("span what -1", x.span(0, 0, -1), -2);
    CHECK.due("span k 1", x.span(0, 1, 0), -1);
    CHECK.due("nots what 2", x.nots(0, 2), -2);
    CHECK.due("nots what -1", x.nots(0, -1), -2);
    CHECK.due("alsos what 2", x.alsos(0, 2), -2);
    CHECK.due("alsos what -1", x.alsos(0, -1), -2);
    CHECK.due("nots 1", x.nots(0, 1), 0);
    CHECK.due("alsos 1", x.alsos(0, 1), 18);
    CHECK.due("nots 0", x.nots(0, 0), 0);
    CHECK.due("alsos 0", x.alsos(0, 0), 0);
    CHECK.due("within -1", x.within(0, -1), -2);
    CHECK.due("within 5", x.within(0, 5), -2);
    CHECK.due("within 4", x.within(0, 4), 5);
    CHECK.due("other 14", x.other(0, 14), -2);
    CHECK.due("other -1", x.other(0, -1), -2);
    CHECK.due("other 8", x.other(0, 8), 5);
    CHECK.due("other 4", x.other(0, 4), 4);
    CHECK.due("other changes nothing", x.days(0), 0b00001010010111);
    CHECK.due("shift 28", x.shift(0, 28), -2);
    CHECK.due("shift -28", x.shift(0, -28), -2);
    CHECK.due("shift 27", x.shift(0, 27), 1);
    CHECK.due("shift -27", x.shift(0, -27), 1);
    CHECK.due("shift least", x.shift(0, Integer.MIN_VALUE), -2);
    CHECK.due("shift 0", x.shift(0, 0), 5);
    CHECK.due("shift 13", x.shift(0, 13), 2);
    CHECK.due("shift -9", x.shift(0, -9), 2);
    CHECK.due("least beyond", x.least(1 << 14), -2);
    CHECK.due("least below", x.least(Integer.MIN_VALUE), -2);
    CHECK.due("least of all", x.least((1 << 14) - 1), 1);
    CHECK.due("least of none", x.least(0), 1);
    CHECK.due("no act", x.count(4), 0);
  }

  private static void limits() {
    // Four SPANS are worth their words; with fewer the rest is told by DAYS.
    DayWords x = Check.made("desk days 28 first mo;feast a 3;train 0 at 0:daily to 5 daily from 8 to 12 daily from 20 not a;");
    int had = x.within(0, 0);
    CHECK.due("within 0", had, 1 + x.many(0));
    for (int k = 1; k <= 4; k++) {
      CHECK.due("fewer or as many with " + k, x.within(0, k) <= had ? 1 : 0, 1);
      CHECK.due("no fewer than words with " + k, x.within(0, k) >= x.words(0) ? 1 : 0, 1);
      had = x.within(0, k);
    }
    x = Check.made("desk days 28 first mo;feast a 2 9 17 25;train 0 at 0:daily not a;");
    CHECK.due("words with a name", x.words(0), 3);
    CHECK.due("plain", x.plain(0), 6);
    CHECK.due("within 0 of all but four", x.within(0, 0), 25);
    CHECK.due("within 1", x.within(0, 1), 3);
    CHECK.due("names again", x.words(0), 3);
  }
}
