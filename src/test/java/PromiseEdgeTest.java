/**
 * Promises 1 to 46, one test each: what is answered at the first and the last value that is taken,
 * of nothing and of all, ahead of any call and behind the last one that is taken. What is refused,
 * and that all stays then, is in RefusedTest.
 */
public final class PromiseEdgeTest {
  private static final Check CHECK = new Check();
  private static final int ALL = (1 << 28) - 1;
  private static final int BLANKS = 0x20202020;
  /** DAYS 0 .. 27 from a mo; TRAINS: none, all, the first and last DAY, a weekday. */
  private static final String LONG =
      "desk days 28 first mo;feast aa 0 27;feast bb 9;train 0 at 0:never;train 9 at 1439:daily;train 0 at 1439:also 0 27;train 9 at 0:we;";
  private static final String ONE = "desk days 1 first su;feast z 0;train 5 at 5:daily;train 5 at 5:never;";

  public static void main(String[] args) {
    newObject();
    feed();
    end();
    desk();
    fault();
    count();
    weekday();
    feast();
    train();
    days();
    runs();
    many();
    votes();
    vote();
    strays();
    next();
    rest();
    words();
    length();
    sign();
    ways();
    spans();
    span();
    nots();
    alsos();
    within();
    plain();
    other();
    shift();
    least();
    tells();
    told();
    worse();
    shares();
    same();
    join();
    joint();
    twice();
    saved();
    crowd();
    full();
    flips();
    sets();
    merges();
    undo();
    anew();
    lastCall();
    CHECK.finish("PromiseEdgeTest");
  }

  /** 1: No DESK. */
  private static void newObject() {
    CHECK.due("1 all of a new object", Check.look(new DayWords()),
        "fault 0 -1 count 0 0 0 0 0 0 0 feasts -2 -2 trains" + " -2 -2 -2".repeat(6)
        + " told -1 -1 -1 -1 worse -1 saved -2 words -2 -2 -2");
    DayWords x = new DayWords();
    DayWords y = new DayWords();
    Check.desk(x, ONE);
    CHECK.due("1 one object is not another", y.count(5), 0);
    CHECK.due("1 desk of an empty tape", y.desk(), 0);
    CHECK.due("1 the other stays", x.count(5), 4);
  }

  /** 2: four bytes of each number, the highest first; NONE, and none come, if it would have more than 600. */
  private static void feed() {
    DayWords x = new DayWords();
    for (int size = 20; size <= 600; size += 20) {
      CHECK.due("2 feed to " + size, x.feed(BLANKS, BLANKS, BLANKS, BLANKS, BLANKS), size);
    }
    CHECK.due("2 feed beyond 600", x.feed(BLANKS, BLANKS, BLANKS, BLANKS, BLANKS), -1);
    CHECK.due("2 none came", x.count(6), 600);
    for (int size = 599; size > 580; size--) {
      CHECK.due("2 end " + size, x.end(size), size);
      CHECK.due("2 feed from " + size, x.feed(BLANKS, BLANKS, BLANKS, BLANKS, BLANKS), -1);
      CHECK.due("2 none came to " + size, x.count(6), size);
    }
    CHECK.due("2 end 580", x.end(580), 580);
    CHECK.due("2 feed from 580", x.feed(BLANKS, BLANKS, BLANKS, BLANKS, BLANKS), 600);
    CHECK.due("2 feed again", x.feed(BLANKS, BLANKS, BLANKS, BLANKS, BLANKS), -1);
    CHECK.due("2 end 1", x.end(1), 1);
    CHECK.due("2 feed from 1", x.feed(BLANKS, BLANKS, BLANKS, BLANKS, BLANKS), 21);
    CHECK.due("2 these were blanks", x.desk(), 0);
    CHECK.due("2 feed from 0", x.feed(0, 0, 0, 0, 0), 20);
    // Each of twenty bytes at its place: all but one are blanks.
    for (int at = 0; at < 20; at++) {
      for (int sign : new int[] {'a', 0, 127, 128, 255}) {
        int[] v = {BLANKS, BLANKS, BLANKS, BLANKS, BLANKS};
        int shift = 24 - at % 4 * 8;
        v[at / 4] = v[at / 4] & ~(255 << shift) | sign << shift;
        DayWords y = new DayWords();
        y.feed(v[0], v[1], v[2], v[3], v[4]);
        CHECK.due("2 sign " + sign + " at " + at, y.desk(), -4);
        CHECK.due("2 its place", y.fault(1), at);
      }
    }
  }

  /** 3: n; NONE, and nothing happens, if it has not so many, or n is below 0. */
  private static void end() {
    DayWords x = new DayWords();
    CHECK.due("3 end 0 of none", x.end(0), 0);
    CHECK.due("3 end 1 of none", x.end(1), -1);
    CHECK.due("3 end -1 of none", x.end(-1), -1);
    Check.tape(x, "desk days 5 first mo;#");
    CHECK.due("3 end of one more", x.end(23), -1);
    CHECK.due("3 end of all", x.end(22), 22);
    CHECK.due("3 end of all but one", x.end(21), 21);
    CHECK.due("3 what was cut off does not come back", x.end(22), -1);
    CHECK.due("3 its bytes", x.count(6), 21);
    CHECK.due("3 the first alone", x.desk(), 1);
    CHECK.due("3 end behind desk", x.end(1), -1);
    Check.tape(x, "daily!");
    CHECK.due("3 end -1", x.end(-1), -1);
    CHECK.due("3 nothing happens", x.count(6), 6);
    CHECK.due("3 end 0", x.end(0), 0);
    CHECK.due("3 bytes", x.count(6), 0);
    CHECK.due("3 all are gone", x.tells(), -4);
    CHECK.due("3 of no byte", x.told(3), 0);
  }

  /** 4: the DESK in place of another, nothing done, no WORDING told; 0: there is none then; -4: a FAULT (all else stays). */
  private static void desk() {
    DayWords x = Check.made(LONG);
    Check.tells(x, "daily");
    x.flips(0, 3);
    x.flips(1, 3);
    String had = Check.look(x);
    for (String faulty : new String[] {"desk", "desk days 29 first mo;", "desk days 3 first mo;feast q 1;train 1 at 1:daily;!", ";",
        "desk days 3 first mo;feast q 1;feast r 2;feast s 0;", "desk days 3 first mo;train 4 at 4:mo tu;train 4 at 4:tu mo;"}) {
      CHECK.due("4 desk " + faulty, Check.desk(x, faulty), -4);
      CHECK.due("4 the tape is empty behind " + faulty, x.count(6), 0);
      String now = Check.look(x);
      CHECK.due("4 all else behind " + faulty, now.substring(now.indexOf("count")), had.substring(had.indexOf("count")));
    }
    CHECK.due("4 a name stays", Check.tells(x, "also aa"), 2);
    CHECK.due("4 a name of a faulty desk is none", Check.tells(x, "also q"), -4);
    CHECK.due("4 acts are taken back still", x.undo(), 1);
    CHECK.due("4 another", Check.desk(x, ONE), 4);
    CHECK.due("4 all of it", Check.look(x), Check.look(Check.made(ONE)));
    CHECK.due("4 nothing done", x.undo(), -5);
    Check.tells(x, "never");
    x.flips(0, 0);
    CHECK.due("4 the same once more", Check.desk(x, ONE), 4);
    CHECK.due("4 all of it once more", Check.look(x), Check.look(Check.made(ONE)));
    CHECK.due("4 an empty tape", x.desk(), 0);
    CHECK.due("4 there is none then", Check.look(x), Check.look(new DayWords()));
    CHECK.due("4 none in place of none", x.desk(), 0);
    CHECK.due("4 a fault without a desk", Check.desk(x, "desk"), -4);
    CHECK.due("4 none still", x.count(0), 0);
    CHECK.due("4 the most lines", Check.desk(x, "desk days 1 first mo;" + "train 1 at 1:mo;".repeat(6) + "feast a 0;feast b 0;"), 9);
    CHECK.due("4 the fewest lines", Check.desk(x, "desk days 1 first mo;"), 1);
  }

  /** 5: of the latest desk(): 0, NONE without; NONE for another what, and ahead of any (what 1). */
  private static void fault() {
    DayWords x = new DayWords();
    CHECK.due("5 ahead of any", x.fault(0), 0);
    CHECK.due("5 place ahead of any", x.fault(1), -1);
    CHECK.due("5 what 2 ahead of any", x.fault(2), -1);
    CHECK.due("5 what -1 ahead of any", x.fault(-1), -1);
    String three = "desk days 5 first mo;feast a 1;feast b 2;";
    String[] texts = {"#", three + "feast", "desk days 0", "", "desk", ONE, "desk days 1 first mo;desk"};
    int[] faults = {1, 3, 2, 0, 1, 0, 1};
    int[] places = {0, three.length(), 10, -1, 4, -1, 21};
    for (int i = 0; i < texts.length; i++) {
      Check.desk(x, texts[i]);
      CHECK.due("5 fault of " + texts[i], x.fault(0), faults[i]);
      CHECK.due("5 place of " + texts[i], x.fault(1), places[i]);
      CHECK.due("5 what 2 of " + texts[i], x.fault(2), -1);
      CHECK.due("5 what -1 of " + texts[i], x.fault(-1), -1);
    }
    Check.desk(x, ONE);
    Check.tells(x, "#");
    Check.sets(x, 0, "# #");
    CHECK.due("5 tells and sets are no desk", x.fault(0), 0);
    CHECK.due("5 nor is their place", x.fault(1), -1);
    Check.desk(x, " #");
    Check.tells(x, "daily");
    Check.sets(x, 0, "daily");
    CHECK.due("5 still the latest desk's", x.fault(0), 1);
    CHECK.due("5 and its place", x.fault(1), 1);
  }

  /** 6: 0 .. 6; NONE for others. */
  private static void count() {
    DayWords x = Check.made("desk days 28 first su;feast a 1;feast b 1;" + "train 1 at 1:mo;".repeat(6));
    for (int act = 0; act < 20; act++) {
      CHECK.due("6 acts", x.count(4), act);
      x.merges();
    }
    x.feed(0, 0, 0, 0, 0);
    int[] most = {28, 6, 2, 6, 20, 9, 20};
    for (int what = 0; what < 7; what++) {
      CHECK.due("6 the most of " + what, x.count(what), most[what]);
    }
    x = Check.made("desk days 1 first mo;");
    int[] least = {1, 0, 0, 0, 0, 1, 0};
    for (int what = 0; what < 7; what++) {
      CHECK.due("6 the least of " + what, x.count(what), least[what]);
    }
    CHECK.due("6 what -1", x.count(-1), -1);
    CHECK.due("6 what 7", x.count(7), -1);
  }

  /** 7: 0 mo .. 6 su. */
  private static void weekday() {
    DayWords x = Check.made(LONG);
    CHECK.due("7 the first", x.weekday(0), 0);
    CHECK.due("7 su", x.weekday(6), 6);
    CHECK.due("7 the next week", x.weekday(7), 0);
    CHECK.due("7 the last", x.weekday(27), 6);
    CHECK.due("7 behind it", x.weekday(28), -2);
    CHECK.due("7 ahead of the first", x.weekday(-1), -2);
    x = Check.made(ONE);
    CHECK.due("7 one day", x.weekday(0), 6);
    CHECK.due("7 behind one day", x.weekday(1), -2);
    Check.desk(x, "desk days 2 first su;");
    CHECK.due("7 behind su comes mo", x.weekday(1), 0);
  }

  /** 8: as bits (bit 0: DAY 0); there is no such FEAST. */
  private static void feast() {
    DayWords x = Check.made(LONG);
    CHECK.due("8 the first and last day", x.feast(0), 1 | 1 << 27);
    CHECK.due("8 the last feast", x.feast(1), 1 << 9);
    CHECK.due("8 none behind it", x.feast(2), -2);
    CHECK.due("8 none ahead of the first", x.feast(-1), -2);
    x = Check.made(ONE);
    CHECK.due("8 one", x.feast(0), 1);
    CHECK.due("8 none behind one", x.feast(1), -2);
    Check.desk(x, "desk days 1 first mo;");
    CHECK.due("8 of none", x.feast(0), -2);
  }

  /** 9: what 0: its ROUTE, 1: its MINUTE. */
  private static void train() {
    DayWords x = Check.made(LONG);
    int[] routes = {0, 9, 0, 9};
    int[] minutes = {0, 1439, 1439, 0};
    for (int t = 0; t < 4; t++) {
      CHECK.due("9 route " + t, x.train(t, 0), routes[t]);
      CHECK.due("9 minute " + t, x.train(t, 1), minutes[t]);
      CHECK.due("9 what 2", x.train(t, 2), -2);
      CHECK.due("9 what -1", x.train(t, -1), -2);
    }
    CHECK.due("9 none behind the last", x.train(4, 0), -2);
    CHECK.due("9 none ahead of the first", x.train(-1, 1), -2);
    Check.sets(x, 0, "mo");
    CHECK.due("9 by acts, too", x.train(0, 1), 0);
  }

  /** 10: DAYS on which it runs (by acts), as bits. */
  private static void days() {
    DayWords x = Check.made(LONG);
    CHECK.due("10 none", x.days(0), 0);
    CHECK.due("10 all", x.days(1), ALL);
    CHECK.due("10 the first and last", x.days(2), 1 | 1 << 27);
    x.flips(0, 27);
    x.flips(1, 0);
    CHECK.due("10 by acts", x.days(0), 1 << 27);
    CHECK.due("10 all but one", x.days(1), ALL - 1);
    CHECK.due("10 none behind the last", x.days(4), -2);
    CHECK.due("10 none ahead of the first", x.days(-1), -2);
  }

  /** 11: 1 if it runs on a DAY, else 0. */
  private static void runs() {
    DayWords x = Check.made(LONG);
    for (int d = 0; d < 28; d++) {
      CHECK.due("11 none " + d, x.runs(0, d), 0);
      CHECK.due("11 all " + d, x.runs(1, d), 1);
      CHECK.due("11 ends " + d, x.runs(2, d), d == 0 || d == 27 ? 1 : 0);
    }
    CHECK.due("11 behind the last", x.runs(1, 28), -2);
    CHECK.due("11 ahead of the first", x.runs(1, -1), -2);
    CHECK.due("11 no shift by 32", x.runs(1, 32), -2);
  }

  /** 12: on how many DAYS. */
  private static void many() {
    DayWords x = Check.made(LONG);
    CHECK.due("12 none", x.many(0), 0);
    CHECK.due("12 all", x.many(1), 28);
    CHECK.due("12 ends", x.many(2), 2);
    x = Check.made(ONE);
    CHECK.due("12 one", x.many(0), 1);
  }

  /** 13: of a weekday (0 .. 6). */
  private static void votes() {
    DayWords x = Check.made(LONG);
    for (int w = 0; w < 7; w++) {
      CHECK.due("13 none", x.votes(0, w), 0);
      CHECK.due("13 all", x.votes(1, w), 4);
      CHECK.due("13 ends", x.votes(2, w), w == 0 || w == 6 ? 1 : 0);
    }
    CHECK.due("13 weekday 7", x.votes(1, 7), -2);
    CHECK.due("13 weekday -1", x.votes(1, -1), -2);
    x = Check.made(ONE);
    CHECK.due("13 a weekday that the period has not", x.votes(0, 5), 0);
    CHECK.due("13 its only one", x.votes(0, 6), 1);
  }

  /** 14: on which it runs on more DAYS of the PERIOD than it does not. */
  private static void vote() {
    DayWords x = Check.made(LONG);
    CHECK.due("14 none", x.vote(0), 0);
    CHECK.due("14 all", x.vote(1), 127);
    CHECK.due("14 one of four", x.vote(2), 0);
    x.flips(3, 2);
    CHECK.due("14 three of four", x.vote(3), 4);
    x.flips(3, 9);
    CHECK.due("14 two of four are as many", x.vote(3), 0);
    x = Check.made("desk days 15 first mo;train 1 at 1:also 0 7 1;");
    CHECK.due("14 two of three, one of two", x.vote(0), 1);
    x.flips(0, 7);
    CHECK.due("14 one of three", x.vote(0), 0);
    x = Check.made(ONE);
    CHECK.due("14 weekdays that the period has not", x.vote(0), 64);
    CHECK.due("14 none of one", x.vote(1), 0);
  }

  /** 15: on how many DAYS it is other than by these weekdays. */
  private static void strays() {
    DayWords x = Check.made(LONG);
    CHECK.due("15 none", x.strays(0), 0);
    CHECK.due("15 all", x.strays(1), 0);
    CHECK.due("15 two alone", x.strays(2), 2);
    x.flips(3, 2);
    CHECK.due("15 three of four", x.strays(3), 1);
    x.flips(3, 9);
    CHECK.due("15 two of four", x.strays(3), 2);
    x = Check.made("desk days 28 first mo;train 1 at 1:daily to 13;");
    CHECK.due("15 the most: half of all", x.strays(0), 14);
  }

  /** 16: the first DAY from a DAY on (it, too); NONE: on none. */
  private static void next() {
    DayWords x = Check.made(LONG);
    CHECK.due("16 on none", x.next(0, 0), -1);
    CHECK.due("16 on none from the last", x.next(0, 27), -1);
    for (int d = 0; d < 28; d++) {
      CHECK.due("16 the day itself", x.next(1, d), d);
      CHECK.due("16 the last", x.next(2, d), d == 0 ? 0 : 27);
    }
    CHECK.due("16 the last we", x.next(3, 23), 23);
    CHECK.due("16 behind the last we", x.next(3, 24), -1);
    CHECK.due("16 no day", x.next(1, 28), -2);
    CHECK.due("16 no day", x.next(1, -1), -2);
  }

  /** 17: the most DAYS one behind the other on which it does not run. */
  private static void rest() {
    DayWords x = Check.made(LONG);
    CHECK.due("17 never", x.rest(0), 28);
    CHECK.due("17 daily", x.rest(1), 0);
    CHECK.due("17 between the ends", x.rest(2), 26);
    CHECK.due("17 weeks", x.rest(3), 6);
    x.flips(0, 27);
    CHECK.due("17 ahead of the last", x.rest(0), 27);
    x.undo();
    x.flips(0, 0);
    CHECK.due("17 behind the first", x.rest(0), 27);
    x.flips(1, 27);
    CHECK.due("17 the last alone", x.rest(1), 1);
    // Two rests at the ends are not one.
    x = Check.made("desk days 9 first mo;train 1 at 1:daily from 3 to 5;");
    CHECK.due("17 no rest around the end", x.rest(0), 3);
    CHECK.due("17 one day", Check.made(ONE).rest(1), 1);
  }

  /** 18: how many TOKENS. */
  private static void words() {
    DayWords x = Check.made(LONG);
    CHECK.due("18 never", x.words(0), 1);
    CHECK.due("18 daily", x.words(1), 1);
    CHECK.due("18 a feast's", x.words(2), 2);
    CHECK.due("18 we", x.words(3), 1);
    CHECK.due("18 none behind the last", x.words(4), -2);
    CHECK.due("18 of one day", Check.made(ONE).words(0), 1);
  }

  /** 19: how many signs they are written by. */
  private static void length() {
    DayWords x = Check.made(LONG);
    int[] lengths = {5, 5, 7, 2};
    for (int t = 0; t < 4; t++) {
      CHECK.due("19 length " + t, x.length(t), lengths[t]);
    }
    CHECK.due("19 none behind the last", x.length(4), -2);
    CHECK.due("19 none ahead of the first", x.length(-1), -2);
  }

  /** 20: sign i (from 0), as a byte; NONE: there are not so many; -2: i is below 0. */
  private static void sign() {
    DayWords x = Check.made(LONG);
    String[] texts = {"never", "daily", "also aa", "we"};
    for (int t = 0; t < 4; t++) {
      for (int i = 0; i < texts[t].length(); i++) {
        CHECK.due("20 sign " + i + " of " + texts[t], x.sign(t, i), texts[t].charAt(i));
      }
      CHECK.due("20 behind " + texts[t], x.sign(t, texts[t].length()), -1);
      CHECK.due("20 ahead of " + texts[t], x.sign(t, -1), -2);
    }
    CHECK.due("20 no train, and far behind", x.sign(4, 99), -2);
  }

  /** 21: how many shortest WORDINGS. */
  private static void ways() {
    DayWords x = Check.made(LONG);
    for (int t = 0; t < 4; t++) {
      CHECK.due("21 one " + t, x.ways(t), 1);
    }
    CHECK.due("21 none behind the last", x.ways(4), -2L);
    CHECK.due("21 none ahead of the first", x.ways(-1), -2L);
    x = Check.made(ONE);
    CHECK.due("21 never and six weekdays", x.ways(1), 7);
    CHECK.due("21 daily and su", x.ways(0), 2);
  }

  /** 22: how many SPANS its WORDS have. */
  private static void spans() {
    DayWords x = Check.made(LONG);
    int[] many = {0, 1, 0, 1, -2};
    for (int t = 0; t < 5; t++) {
      CHECK.due("22 spans " + t, x.spans(t), many[t]);
    }
    x = Check.made("desk days 28 first mo;train 1 at 1:mo to 6 we from 7 to 13 fr from 14 to 20 su from 21;"
        + "train 1 at 1:daily to 8 mo we from 9;train 1 at 1:also 0 9 18 27;");
    CHECK.due("22 four days alone", x.spans(0), 0);
    CHECK.due("22 two", x.spans(1), 2);
    CHECK.due("22 none", x.spans(2), 0);
  }

  /** 23: SPAN k (from 0), what 0 .. 2; NONE: there are not so many; -2: k is below 0. */
  private static void span() {
    DayWords x = Check.made(LONG + "train 1 at 1:daily to 8 mo we from 9;");
    CHECK.due("23 never has none", x.span(0, 0, 0), -1);
    CHECK.due("23 days alone have none", x.span(2, 0, 2), -1);
    int[][] due = {{0, 8, 127}, {9, 27, 5}};
    for (int k = 0; k < 2; k++) {
      for (int what = 0; what < 3; what++) {
        CHECK.due("23 span " + k + " what " + what, x.span(4, k, what), due[k][what]);
      }
      CHECK.due("23 what 3", x.span(4, k, 3), -2);
      CHECK.due("23 what -1", x.span(4, k, -1), -2);
    }
    CHECK.due("23 behind the last", x.span(4, 2, 0), -1);
    CHECK.due("23 far behind", x.span(4, 28, 0), -1);
    CHECK.due("23 ahead of the first", x.span(4, -1, 0), -2);
    CHECK.due("23 no train, and far behind", x.span(5, 28, 0), -2);
  }

  /** 24: behind not, what 0: FEASTS, 1: DAYS told as such, as bits (0 without). */
  private static void nots() {
    DayWords x = Check.made(LONG + "train 1 at 1:daily not aa bb 5 15;train 1 at 1:daily not 26;");
    CHECK.due("24 feasts without", x.nots(1, 0), 0);
    CHECK.due("24 days without", x.nots(1, 1), 0);
    CHECK.due("24 of never", x.nots(0, 0) | x.nots(0, 1), 0);
    CHECK.due("24 one feast, and days", x.nots(4, 0), 1);
    // FEAST bb has but one DAY, that is told as such.
    CHECK.due("24 days told as such", x.nots(4, 1), 1 << 5 | 1 << 9 | 1 << 15);
    CHECK.due("24 one day", x.nots(5, 1), 1 << 26);
    CHECK.due("24 no feast", x.nots(5, 0), 0);
    CHECK.due("24 what 2", x.nots(4, 2), -2);
    CHECK.due("24 what -1", x.nots(4, -1), -2);
    x = Check.made("desk days 28 first mo;feast aa 0 9;feast bb 17 26;train 1 at 1:daily not aa bb;");
    CHECK.due("24 both feasts", x.nots(0, 0), 3);
    CHECK.due("24 none of their days", x.nots(0, 1), 0);
  }

  /** 25: behind also, likewise. */
  private static void alsos() {
    DayWords x = Check.made(LONG + "train 1 at 1:also 9 3;train 1 at 1:we also 27;");
    CHECK.due("25 feasts without", x.alsos(1, 0), 0);
    CHECK.due("25 days without", x.alsos(1, 1), 0);
    CHECK.due("25 of never", x.alsos(0, 0) | x.alsos(0, 1), 0);
    CHECK.due("25 a feast", x.alsos(2, 0), 1);
    CHECK.due("25 none of its days", x.alsos(2, 1), 0);
    CHECK.due("25 no feast", x.alsos(4, 0), 0);
    CHECK.due("25 days", x.alsos(4, 1), 1 << 9 | 1 << 3);
    CHECK.due("25 the last day", x.alsos(5, 1), 1 << 27);
    CHECK.due("25 what 2", x.alsos(4, 2), -2);
    CHECK.due("25 what -1", x.alsos(4, -1), -2);
    x = Check.made("desk days 28 first mo;feast aa 0 9;feast bb 17 26;train 1 at 1:also aa bb;");
    CHECK.due("25 both feasts", x.alsos(0, 0), 3);
  }

  /** 26: with k (0 .. 4) SPANS at most. */
  private static void within() {
    DayWords x = Check.made(LONG);
    for (int k = 0; k <= 4; k++) {
      CHECK.due("26 never " + k, x.within(0, k), 1);
      CHECK.due("26 daily " + k, x.within(1, k), k == 0 ? 28 : 1);
      CHECK.due("26 a feast " + k, x.within(2, k), 2);
      CHECK.due("26 we " + k, x.within(3, k), k == 0 ? 5 : 1);
    }
    CHECK.due("26 k -1", x.within(1, -1), -2);
    CHECK.due("26 k 5", x.within(1, 5), -2);
    x = Check.made("desk days 28 first mo;train 1 at 1:daily;train 1 at 1:daily to 5 daily from 7 to 12 daily from 14 to 19 daily from 21 to 26;");
    CHECK.due("26 all without a name", x.within(0, 0), 29);
    CHECK.due("26 none", x.within(1, 0), 25);
    CHECK.due("26 one", x.within(1, 1), 3);
    // Each SPAN more spares more than it costs: 3, then 5, 5, 3 for the last, which needs no to.
    x = Check.made("desk days 28 first mo;train 1 at 1:daily to 6 daily from 14;train 1 at 1:daily to 4 daily from 12 to 16 daily from 23;");
    CHECK.due("26 two, none", x.within(0, 0), 22);
    CHECK.due("26 two, one", x.within(0, 1), 9);
    CHECK.due("26 two", x.within(0, 2), 6);
    CHECK.due("26 two, four", x.within(0, 4), 6);
    CHECK.due("26 three, two", x.within(1, 2) > x.within(1, 3) ? 1 : 0, 1);
    CHECK.due("26 three", x.within(1, 3), 11);
    CHECK.due("26 three, four", x.within(1, 4), 11);
  }

  /** 27: that names no FEAST. */
  private static void plain() {
    DayWords x = Check.made(LONG);
    int[] due = {1, 1, 3, 1, -2};
    for (int t = 0; t < 5; t++) {
      CHECK.due("27 plain " + t, x.plain(t), due[t]);
    }
    CHECK.due("27 none ahead of the first", x.plain(-1), -2);
    // No FEAST is needed: as many as with them.
    CHECK.due("27 of a desk without feasts", Check.made("desk days 9 first mo;train 1 at 1:also 3 8;").plain(0), 3);
  }

  /** 28: were it other on a DAY (it runs there, if it does not now). */
  private static void other() {
    DayWords x = Check.made(LONG);
    String had = Check.look(x);
    CHECK.due("28 never but the first", x.other(0, 0), 2);
    CHECK.due("28 never but the last", x.other(0, 27), 2);
    CHECK.due("28 daily but the first", x.other(1, 0), 3);
    CHECK.due("28 daily but the last", x.other(1, 27), 3);
    CHECK.due("28 one of two", x.other(2, 27), 2);
    CHECK.due("28 behind the last", x.other(1, 28), -2);
    CHECK.due("28 ahead of the first", x.other(1, -1), -2);
    CHECK.due("28 nothing happens", Check.look(x), had);
    x = Check.made(ONE);
    CHECK.due("28 none of one", x.other(0, 0), 1);
    CHECK.due("28 one of one", x.other(1, 0), 1);
  }

  /** 29: n (-27 .. 27) later; those that would not be in the PERIOD are gone. */
  private static void shift() {
    DayWords x = Check.made(LONG);
    String had = Check.look(x);
    CHECK.due("29 by none", x.shift(2, 0), 2);
    CHECK.due("29 by 27: the first is the last", x.shift(2, 27), 2);
    CHECK.due("29 by -27: the last is the first", x.shift(2, -27), 2);
    CHECK.due("29 all by 27", x.shift(1, 27), 2);
    CHECK.due("29 all by -27", x.shift(1, -27), 2);
    CHECK.due("29 all by 1", x.shift(1, 1), 3);
    CHECK.due("29 all by -1", x.shift(1, -1), 3);
    CHECK.due("29 none by any", x.shift(0, -27) + x.shift(0, 27), 2);
    CHECK.due("29 weekdays by a week", x.shift(3, 7), 3);
    CHECK.due("29 weekdays by a day", x.shift(3, 1), 1);
    CHECK.due("29 28", x.shift(1, 28), -2);
    CHECK.due("29 -28", x.shift(1, -28), -2);
    CHECK.due("29 nothing happens", Check.look(x), had);
    x = Check.made("desk days 5 first mo;train 1 at 1:daily;train 1 at 1:also 4;");
    CHECK.due("29 out of a short period", x.shift(0, 5), 1);
    CHECK.due("29 out of it at the other end", x.shift(0, -5), 1);
    CHECK.due("29 all but the last gone", x.shift(0, 4), 1);
    CHECK.due("29 farther than it is long", x.shift(0, 27), 1);
    CHECK.due("29 the last is gone", x.shift(1, 1), 1);
    CHECK.due("29 the last is the first", x.shift(1, -4), 1);
  }

  /** 30: DAYS as bits; -2: there are no such DAYS, no DESK. */
  private static void least() {
    DayWords x = Check.made(LONG);
    CHECK.due("30 none", x.least(0), 1);
    CHECK.due("30 the first", x.least(1), 2);
    CHECK.due("30 the last", x.least(1 << 27), 2);
    CHECK.due("30 all", x.least(ALL), 1);
    CHECK.due("30 one more", x.least(1 << 28), -2);
    CHECK.due("30 all and one more", x.least((1 << 29) - 1), -2);
    CHECK.due("30 below 0", x.least(-1), -2);
    CHECK.due("30 the lowest", x.least(Integer.MIN_VALUE), -2);
    CHECK.due("30 the highest", x.least(Integer.MAX_VALUE), -2);
    x = Check.made(ONE);
    CHECK.due("30 none of one", x.least(0), 1);
    CHECK.due("30 one", x.least(1), 1);
    CHECK.due("30 the second of one", x.least(2), -2);
    CHECK.due("30 no desk", new DayWords().least(0), -2);
  }

  /** 31: how many DAYS it has. -2, and the TAPE stays: there is no DESK; -4: a FAULT (what was told is gone). */
  private static void tells() {
    DayWords x = new DayWords();
    Check.tape(x, "desk days 5 first mo;");
    CHECK.due("31 no desk", x.tells(), -2);
    CHECK.due("31 the tape stays", x.count(6), 21);
    CHECK.due("31 byte by byte", x.desk(), 1);
    CHECK.due("31 none", Check.tells(x, "never"), 0);
    CHECK.due("31 all", Check.tells(x, "daily"), 5);
    CHECK.due("31 the tape is empty then", x.count(6), 0);
    CHECK.due("31 a fault", Check.tells(x, "daily daily"), -4);
    CHECK.due("31 the tape is empty then, too", x.count(6), 0);
    CHECK.due("31 what was told is gone", x.told(0), -1);
    CHECK.due("31 an empty tape", x.tells(), -4);
    CHECK.due("31 nothing is done", x.count(4), 0);
    x.desk();
    Check.tape(x, "daily");
    CHECK.due("31 no desk any more", x.tells(), -2);
    CHECK.due("31 the tape stays, too", x.count(6), 5);
  }

  /** 32: of the latest tells() of this DESK; NONE each with a FAULT; NONE for others, and ahead of any. */
  private static void told() {
    DayWords x = Check.made(LONG);
    for (int what = -1; what < 5; what++) {
      CHECK.due("32 ahead of any " + what, x.told(what), -1);
    }
    String[] texts = {"daily", "daily 3", "never", "", "not 3", "mo - su not aa also aa 1"};
    int[][] due = {{ALL, 1, 0, -1}, {-1, -1, 1, 6}, {0, 1, 0, -1}, {-1, -1, 1, 0}, {0, 2, 0, -1}, {ALL, 8, 0, -1}};
    for (int i = 0; i < texts.length; i++) {
      Check.tells(x, texts[i]);
      for (int what = 0; what < 4; what++) {
        CHECK.due("32 told " + what + " of " + texts[i], x.told(what), due[i][what]);
      }
      CHECK.due("32 told 4 of " + texts[i], x.told(4), -1);
      CHECK.due("32 told -1 of " + texts[i], x.told(-1), -1);
    }
    Check.desk(x, "desk");
    CHECK.due("32 a desk with a fault is no other desk", x.told(1), 8);
    Check.sets(x, 0, "daily");
    Check.sets(x, 0, "daily daily");
    x.undo();
    x.anew();
    CHECK.due("32 acts tell nothing", x.told(1), 8);
    Check.desk(x, LONG);
    for (int what = -1; what < 5; what++) {
      CHECK.due("32 ahead of any of another desk " + what, x.told(what), -1);
    }
    Check.tells(x, "#");
    Check.desk(x, LONG);
    CHECK.due("32 a fault of another desk", x.told(2), -1);
    CHECK.due("32 its place", x.told(3), -1);
  }

  /** 33: how many TOKENS more than the fewest. NONE: a FAULT, ahead of any. */
  private static void worse() {
    DayWords x = Check.made(LONG);
    CHECK.due("33 ahead of any", x.worse(), -1);
    String[] texts = {"daily", "mo - su", "daily 3", "never", "not 3", "also 0 27", "also aa", "daily not " + Check.also(ALL).substring(5)};
    int[] due = {0, 2, -1, 0, 1, 1, 0, 29};
    for (int i = 0; i < texts.length; i++) {
      Check.tells(x, texts[i]);
      CHECK.due("33 worse of " + texts[i], x.worse(), due[i]);
    }
    Check.desk(x, LONG);
    CHECK.due("33 ahead of any of another desk", x.worse(), -1);
    x.end(0);
    x.desk();
    CHECK.due("33 no desk", x.worse(), -1);
  }

  /** 34: DAYS on which two TRAINS run. */
  private static void shares() {
    DayWords x = Check.made(LONG);
    CHECK.due("34 none and all", x.shares(0, 1), 0);
    CHECK.due("34 all and all", x.shares(1, 1), ALL);
    CHECK.due("34 all and ends", x.shares(1, 2), 1 | 1 << 27);
    CHECK.due("34 ends and we", x.shares(2, 3), 0);
    CHECK.due("34 the last and none", x.shares(3, 4), -2);
    CHECK.due("34 none and the first", x.shares(-1, 0), -2);
  }

  /** 35: 1 if two TRAINS run on the same DAYS, else 0. */
  private static void same() {
    DayWords x = Check.made(LONG);
    CHECK.due("35 itself", x.same(0, 0), 1);
    CHECK.due("35 none and all", x.same(0, 1), 0);
    x.flips(2, 0);
    CHECK.due("35 all but one day the same", x.same(0, 2), 0);
    x.flips(2, 27);
    CHECK.due("35 by acts the same", x.same(0, 2), 1);
    CHECK.due("35 the last and none", x.same(3, 4), -2);
    CHECK.due("35 none and the first", x.same(-1, 0), -2);
    CHECK.due("35 none and none", x.same(4, 4), -2);
  }

  private static DayWords six() {
    return Check.made("desk days 3 first mo;train 1 at 2:mo;train 1 at 3:tu;train 2 at 2:we;train 1 at 2:mo tu;train 1 at 3:daily;train 1 at 2:never;");
  }

  /** 36: the least TRAIN of the ROUTE and MINUTE. */
  private static void join() {
    DayWords x = six();
    int[] due = {0, 1, 2, 0, 1, 0, -2};
    for (int t = 0; t < 7; t++) {
      CHECK.due("36 join " + t, x.join(t), due[t]);
    }
    x = Check.made("desk days 3 first mo;" + "train 9 at 1439:mo;".repeat(6));
    CHECK.due("36 of six", x.join(5), 0);
    CHECK.due("36 itself", x.join(0), 0);
  }

  /** 37: DAYS on which any of that ROUTE and MINUTE runs. */
  private static void joint() {
    DayWords x = six();
    int[] due = {3, 7, 4, 3, 7, 3, -2};
    for (int t = 0; t < 7; t++) {
      CHECK.due("37 joint " + t, x.joint(t), due[t]);
    }
    CHECK.due("37 of none", Check.made(LONG).joint(0), 0);
    CHECK.due("37 of one", Check.made(LONG).joint(1), ALL);
  }

  /** 38: DAYS on which two or more of these do. */
  private static void twice() {
    DayWords x = six();
    int[] due = {1, 2, 0, 1, 2, 1, -2};
    for (int t = 0; t < 7; t++) {
      CHECK.due("38 twice " + t, x.twice(t), due[t]);
    }
    CHECK.due("38 one alone", Check.made(LONG).twice(1), 0);
    x = Check.made("desk days 3 first mo;" + "train 1 at 1:mo;".repeat(6));
    CHECK.due("38 six of them", x.twice(3), 1);
  }

  /** 39: TOKENS of all WORDS, less those for joint(), once for each ROUTE and MINUTE. */
  private static void saved() {
    CHECK.due("39 no trains", Check.made("desk days 3 first mo;").saved(), 0);
    CHECK.due("39 each alone", Check.made(LONG).saved(), 0);
    CHECK.due("39 six alike", Check.made("desk days 3 first mo;" + "train 1 at 1:mo;".repeat(6)).saved(), 5);
    CHECK.due("39 six never", Check.made("desk days 3 first mo;" + "train 1 at 1:never;".repeat(6)).saved(), 5);
    // mo, tu, we, mo tu, daily, never: 7, less mo tu, daily, we: 4.
    CHECK.due("39 three groups", six().saved(), 3);
    CHECK.due("39 nothing", Check.made("desk days 28 first mo;feast a 1 9 18;train 1 at 1:we sa;train 1 at 1:also a;").saved(), 2 + 2 - 4);
    // A pattern over all DAYS, and one over the later ones, are dearer together than each for itself.
    DayWords x = Check.made("desk days 28 first mo;train 1 at 1:mo th fr from 8;train 1 at 1:tu su;");
    CHECK.due("39 each for itself", x.words(0) + x.words(1), 7);
    CHECK.due("39 together", x.least(x.joint(0)), 10);
    CHECK.due("39 below 0", x.saved(), -3);
    CHECK.due("39 no desk", new DayWords().saved(), -2);
  }

  /** 40: TRAINS that run on a DAY, as bits. */
  private static void crowd() {
    DayWords x = Check.made(LONG);
    CHECK.due("40 the first", x.crowd(0), 6);
    CHECK.due("40 the second", x.crowd(1), 2);
    CHECK.due("40 the third", x.crowd(2), 10);
    CHECK.due("40 the last", x.crowd(27), 6);
    CHECK.due("40 behind it", x.crowd(28), -2);
    CHECK.due("40 ahead of the first", x.crowd(-1), -2);
    CHECK.due("40 all six", Check.made("desk days 3 first mo;" + "train 1 at 1:mo;".repeat(6)).crowd(0), 63);
    CHECK.due("40 no train", Check.made("desk days 3 first mo;").crowd(2), 0);
  }

  /** 41: the DAY on which most run, the first of several. */
  private static void full() {
    CHECK.due("41 the first of all", Check.made(LONG).full(), 0);
    CHECK.due("41 no train", Check.made("desk days 3 first mo;").full(), 0);
    CHECK.due("41 none runs", Check.made("desk days 3 first mo;train 1 at 1:never;").full(), 0);
    CHECK.due("41 the last", Check.made("desk days 28 first mo;train 1 at 1:also 27;").full(), 27);
    CHECK.due("41 the first of two", Check.made("desk days 28 first mo;train 1 at 1:also 26 27;").full(), 26);
    CHECK.due("41 more behind", Check.made("desk days 28 first mo;train 1 at 1:also 26 27;train 1 at 1:also 27;").full(), 27);
    CHECK.due("41 no desk", new DayWords().full(), -2);
  }

  /** 42: how many TOKENS its WORDS have then; -5: there were 20 acts. */
  private static void flips() {
    DayWords x = Check.made(LONG);
    CHECK.due("42 the first", x.flips(0, 0), 2);
    CHECK.due("42 it runs there", x.days(0), 1);
    CHECK.due("42 the last", x.flips(0, 27), 2);
    CHECK.due("42 a feast's days", Check.text(x, 0), "also aa");
    CHECK.due("42 the first again", x.flips(0, 0), 2);
    CHECK.due("42 it does not run there", x.days(0), 1 << 27);
    CHECK.due("42 the last again", x.flips(0, 27), 1);
    CHECK.due("42 four acts", x.count(4), 4);
    for (int act = 4; act < 19; act++) {
      x.flips(1, act);
    }
    CHECK.due("42 nineteen acts", x.count(4), 19);
    CHECK.due("42 the twentieth", x.flips(0, 5), 2);
    CHECK.due("42 the next one", x.flips(0, 6), -5);
    CHECK.due("42 nothing happens", x.days(0), 32);
    CHECK.due("42 no such day, and 20 acts", x.flips(0, 28), -2);
    CHECK.due("42 no such train, and 20 acts", x.flips(4, 0), -2);
    CHECK.due("42 twenty acts", x.count(4), 20);
    CHECK.due("42 room again", x.undo(), 19);
    CHECK.due("42 the twentieth again", x.flips(0, 6), 2);
    CHECK.due("42 twenty again", x.count(4), 20);
  }

  /** 43: the TAPE (empty then, but for -2): on how many DAYS; -4: nothing happens; -5: 20 acts (asked ahead of -4). */
  private static void sets() {
    DayWords x = Check.made(LONG);
    Check.tells(x, "mo tu");
    CHECK.due("43 all", Check.sets(x, 0, "daily"), 28);
    CHECK.due("43 the tape is empty", x.count(6), 0);
    CHECK.due("43 none", Check.sets(x, 3, "never"), 0);
    CHECK.due("43 two acts", x.count(4), 2);
    String had = Check.look(x);
    CHECK.due("43 a fault", Check.sets(x, 0, "mo tu su mo"), -4);
    CHECK.due("43 nothing happens", Check.look(x), had);
    CHECK.due("43 a fault of an empty tape", x.sets(3), -4);
    CHECK.due("43 nothing happens, too", Check.look(x), had);
    CHECK.due("43 no such train", Check.sets(x, 4, "mo"), -2);
    CHECK.due("43 the tape stays", x.count(6), 2);
    CHECK.due("43 no such train", x.sets(-1), -2);
    CHECK.due("43 the tape stays still", x.count(6), 2);
    CHECK.due("43 byte by byte", x.sets(3), 4);
    for (int act = 3; act < 19; act++) {
      x.flips(1, act);
    }
    CHECK.due("43 the twentieth", Check.sets(x, 0, "su"), 4);
    had = Check.look(x);
    CHECK.due("43 twenty acts", x.count(4), 20);
    CHECK.due("43 the next one", Check.sets(x, 0, "mo"), -5);
    CHECK.due("43 nothing happens but to the tape", Check.look(x), had);
    CHECK.due("43 asked ahead of a fault", Check.sets(x, 0, "mo mo"), -5);
    CHECK.due("43 nothing happens but to the tape", Check.look(x), had);
    CHECK.due("43 asked ahead of an empty tape", x.sets(0), -5);
    CHECK.due("43 no such train ahead of all", Check.sets(x, 4, "mo mo"), -2);
    CHECK.due("43 the tape stays then", x.count(6), 5);
    x.undo();
    CHECK.due("43 a fault with room", x.sets(0), -4);
    CHECK.due("43 nineteen", x.count(4), 19);
    CHECK.due("43 told stays", x.told(1), 2);
  }

  /** 44: the least runs on DAYS of joint(), the others on none: on how many TRAINS the DAYS are others then. */
  private static void merges() {
    DayWords x = six();
    CHECK.due("44 three groups", x.merges(), 4);
    int[] due = {3, 7, 4, 0, 0, 0};
    for (int t = 0; t < 6; t++) {
      CHECK.due("44 days " + t, x.days(t), due[t]);
    }
    CHECK.due("44 again", x.merges(), 0);
    CHECK.due("44 two acts", x.count(4), 2);
    x = Check.made("desk days 3 first mo;" + "train 1 at 1:mo;".repeat(6));
    CHECK.due("44 all but the least", x.merges(), 5);
    CHECK.due("44 the least stays", x.days(0), 1);
    x = Check.made("desk days 3 first mo;train 1 at 1:never;" + "train 1 at 1:mo;".repeat(5));
    CHECK.due("44 all six", x.merges(), 6);
    CHECK.due("44 the least of them", x.days(0), 1);
    x = Check.made("desk days 3 first mo;");
    CHECK.due("44 no trains", x.merges(), 0);
    CHECK.due("44 an act, too", x.count(4), 1);
    for (int act = 1; act < 20; act++) {
      CHECK.due("44 act " + act, x.merges(), 0);
    }
    CHECK.due("44 the next one", x.merges(), -5);
    CHECK.due("44 twenty", x.count(4), 20);
    CHECK.due("44 no desk", new DayWords().merges(), -2);
  }

  /** 45: the latest act is taken back: how many there are; -5: there is none. */
  private static void undo() {
    CHECK.due("45 no desk", new DayWords().undo(), -2);
    DayWords x = six();
    CHECK.due("45 none", x.undo(), -5);
    String had = Check.look(x);
    x.flips(2, 2);
    CHECK.due("45 a flip", x.undo(), 0);
    CHECK.due("45 all as it was", Check.look(x), had);
    Check.sets(x, 2, "daily");
    CHECK.due("45 a set", x.undo(), 0);
    CHECK.due("45 all as it was", Check.look(x), had);
    x.merges();
    CHECK.due("45 a merge", x.undo(), 0);
    CHECK.due("45 all as it was", Check.look(x), had);
    CHECK.due("45 none any more", x.undo(), -5);
    CHECK.due("45 all stays", Check.look(x), had);
    Check.tells(x, "#");
    x.merges();
    Check.tape(x, "daily");
    CHECK.due("45 taken back", x.undo(), 0);
    CHECK.due("45 the tape stays", x.count(6), 5);
    CHECK.due("45 told stays", x.told(3), 0);
    for (int act = 0; act < 20; act++) {
      x.flips(act % 6, act % 3);
    }
    for (int act = 19; act >= 0; act--) {
      CHECK.due("45 back to " + act, x.undo(), act);
    }
    CHECK.due("45 none of twenty", x.undo(), -5);
    for (int t = 0; t < 6; t++) {
      CHECK.due("45 days as told", x.days(t), six().days(t));
    }
  }

  /** 46: all are: how many there were. */
  private static void anew() {
    CHECK.due("46 no desk", new DayWords().anew(), -2);
    DayWords x = six();
    String had = Check.look(x);
    CHECK.due("46 none", x.anew(), 0);
    CHECK.due("46 all stays", Check.look(x), had);
    x.flips(2, 2);
    CHECK.due("46 one", x.anew(), 1);
    CHECK.due("46 all as it was", Check.look(x), had);
    for (int act = 0; act < 20; act++) {
      x.flips(act % 6, act % 3);
    }
    CHECK.due("46 a refused one is none", x.flips(0, 0), -5);
    CHECK.due("46 twenty", x.anew(), 20);
    CHECK.due("46 all as it was", Check.look(x), had);
    CHECK.due("46 none any more", x.anew(), 0);
    CHECK.due("46 none to be taken back", x.undo(), -5);
    CHECK.due("46 room again", x.merges(), 4);
    x.end(0);
    x.desk();
    CHECK.due("46 no desk any more", x.anew(), -2);
  }

  /** An object is used for at most 512 calls after it has been made: the last one is as good as the first. */
  private static void lastCall() {
    DayWords x = new DayWords();
    byte[] text = "desk days 28 first mo;train 1 at 1:mo;  ".getBytes(java.nio.charset.StandardCharsets.ISO_8859_1);
    for (int i = 0; i < 40; i += 20) {
      int[] v = new int[5];
      for (int j = 0; j < 20; j++) {
        v[j / 4] = v[j / 4] << 8 | text[i + j];
      }
      x.feed(v[0], v[1], v[2], v[3], v[4]);
    }
    CHECK.due("the third call", x.desk(), 2);
    for (int call = 4; call <= 511; call++) {
      x.other(0, call % 28);
    }
    CHECK.due("the last call", x.saved(), 0);
  }
}
