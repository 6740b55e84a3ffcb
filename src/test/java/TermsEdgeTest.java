/**
 * Terms I to III, sentence by sentence: of each that names a boundary the last value that is taken
 * and the first that is not, on both sides. Above each test stands its sentence.
 */
public final class TermsEdgeTest {
  private static final Check CHECK = new Check();
  private static final String[] WEEKDAYS = {"mo", "tu", "we", "th", "fr", "sa", "su"};
  private static final String KEYWORDS = "desk days first feast train at never daily from to not also mo tu we th fr sa su";
  /** DAY 0 is a mo; FEAST aa has DAYS 0 and 27, FEAST bb has DAY 9. */
  private static final String LONG = "desk days 28 first mo;feast aa 0 27;feast bb 9;";
  private static final int ALL = (1 << 28) - 1;

  public static void main(String[] args) {
    lines();
    deskIsTheFirst();
    period();
    firstWeekday();
    feastDays();
    routes();
    minutes();
    numbering();
    knownBehindItsLine();
    blanks();
    theLongestTokens();
    names();
    faultsByPlace();
    leastOfOnePlace();
    thirdFeast();
    seventhTrain();
    tapes();
    partsOfAWording();
    items();
    rows();
    withoutFromOrTo();
    fromAndTo();
    behindASpanWithoutTo();
    oneBehindAnother();
    mostSpans();
    entries();
    ends();
    daysOfAWording();
    tokensOfAWording();
    rowsInWords();
    boundsInWords();
    neverFirst();
    fewerFeastsFirst();
    laterSpansFirst();
    earlierLastsFirst();
    lesserWeekdaysFirst();
    written();
    CHECK.finish("TermsEdgeTest");
  }

  private static void good(String text, int lines) {
    DayWords x = new DayWords();
    CHECK.due("desk " + text, Check.desk(x, text), lines);
    CHECK.due("fault of " + text, x.fault(0), 0);
    CHECK.due("place of " + text, x.fault(1), -1);
    CHECK.due("lines of " + text, x.count(5), lines);
  }

  /** The FAULT's place is where '!' stands in the text; it is taken out. */
  private static void bad(String marked, int fault) {
    String text = marked.replace("!", "");
    DayWords x = new DayWords();
    CHECK.due("desk " + marked, Check.desk(x, text), -4);
    CHECK.due("fault of " + marked, x.fault(0), fault);
    CHECK.due("place of " + marked, x.fault(1), marked.indexOf('!'));
    CHECK.due("lines of " + marked, x.count(5), 0);
  }

  /** A WORDING in the long DESK, of these DAYS, of so many TOKENS; alone and as a TRAIN's. */
  private static void wording(String text, int days, int tokens) {
    DayWords x = Check.made(LONG);
    CHECK.due("tells " + text, Check.tells(x, text), Integer.bitCount(days));
    CHECK.due("days of " + text, x.told(0), days);
    CHECK.due("tokens of " + text, x.told(1), tokens);
    CHECK.due("fault of " + text, x.told(2), 0);
    CHECK.due("place of " + text, x.told(3), -1);
    DayWords y = new DayWords();
    if (Check.pour(y, LONG + "train 1 at 1:" + text + ";")) {
      CHECK.due("a train's " + text, y.desk(), 4);
      CHECK.due("days of a train's " + text, y.days(0), days);
    }
  }

  private static void faulty(String marked, int fault) {
    String text = marked.replace("!", "");
    DayWords x = Check.made(LONG);
    CHECK.due("tells " + marked, Check.tells(x, text), -4);
    CHECK.due("fault of " + marked, x.told(2), fault);
    CHECK.due("place of " + marked, x.told(3), marked.indexOf('!'));
    if (!text.contains(";") && marked.length() < 500) {
      bad(LONG + "train 1 at 1:" + marked + ";", fault);
    }
  }

  /** DAYS of the long DESK that have one of these weekdays. */
  private static int of(int weekdays, int first, int last) {
    int days = 0;
    for (int d = first; d <= last; d++) {
      days |= (weekdays >> d % 7 & 1) << d;
    }
    return days;
  }

  // Terms I

  /** DESK: {LINE ;}. */
  private static void lines() {
    good("", 0);
    good(" ", 0);
    good("desk days 5 first mo;", 1);
    good("desk days 5 first mo;feast a 1;", 2);
    bad("!;", 1);
    bad("desk days 5 first mo!", 1);
    bad("desk days 5 first mo;!;", 1);
    bad("desk days 5 first mo;feast a 1!", 1);
    bad("desk days 5 first mo;train 1 at 1:never!", 1);
    String six = "train 1 at 1:mo;".repeat(6);
    good("desk days 5 first mo;feast a 1;feast b 1;" + six, 9);
    good("desk days 5 first mo;feast a 1;" + six + "feast b 1;", 9);
    good("desk days 5 first mo;" + six + "feast a 1;feast b 1;", 9);
    bad("desk days 5 first mo;feast a 1;feast b 1;" + six + "!;", 1);
    bad("desk days 5 first mo;feast a 1;feast b 1;" + six + "!a;", 1);
    bad("desk days 5 first mo;feast a 1;feast b 1;" + six + "!desk", 1);
    bad("desk days 5 first mo;feast a 1;feast b 1;" + six + "!feast c 1;", 3);
    bad("desk days 5 first mo;feast a 1;feast b 1;" + six + "!train 1 at 1:mo;", 3);
  }

  /** desk is the first LINE and no other. */
  private static void deskIsTheFirst() {
    bad("!feast a 1;desk days 5 first mo;", 1);
    bad("!train 1 at 1:never;desk days 5 first mo;", 1);
    bad("!days 5 first mo;", 1);
    bad("desk days 5 first mo;!desk days 5 first mo;", 1);
    bad("desk days 5 first mo;feast a 1;train 1 at 1:never;!desk days 5 first mo;", 1);
    bad("desk !desk days 5 first mo;", 1);
  }

  /** N 1 .. 28 DAYS (0 .. N - 1). */
  private static void period() {
    bad("desk days !0 first mo;", 2);
    bad("desk days !00 first mo;", 2);
    good("desk days 1 first mo;", 1);
    good("desk days 01 first mo;", 1);
    good("desk days 28 first mo;", 1);
    good("desk days 0000000000000000000028 first mo;", 1);
    bad("desk days !29 first mo;", 2);
    bad("desk days !100 first mo;", 2);
    bad("desk days !2147483648 first mo;", 2);
    bad("desk days !4294967297 first mo;", 2);
    bad("desk days !9223372036854775809 first mo;", 2);
    bad("desk days !18446744073709551644 first mo;", 2);
    bad("desk days !- 1 first mo;", 1);
    DayWords x = Check.made("desk days 1 first su;train 1 at 1:daily;");
    CHECK.due("one day", x.days(0), 1);
    CHECK.due("its weekday", x.weekday(0), 6);
    CHECK.due("none behind it", x.weekday(1), -2);
    x = Check.made("desk days 28 first su;train 1 at 1:daily;");
    CHECK.due("all days", x.days(0), ALL);
    CHECK.due("the last", x.weekday(27), 5);
    CHECK.due("none behind it", x.weekday(28), -2);
  }

  /** the weekday W of DAY 0. W: mo tu we th fr sa su, weekdays 0 .. 6. */
  private static void firstWeekday() {
    for (int w = 0; w < 7; w++) {
      DayWords x = Check.made("desk days 28 first " + WEEKDAYS[w] + ";");
      CHECK.due("first " + WEEKDAYS[w], x.count(1), w);
      for (int d = 0; d < 28; d++) {
        CHECK.due("weekday " + d + " from " + WEEKDAYS[w], x.weekday(d), (w + d) % 7);
      }
    }
    bad("desk days 5 first !;", 1);
    bad("desk days 5 first!", 1);
    bad("desk days 5 first !m;", 1);
    bad("desk days 5 first !mon;", 1);
    bad("desk days 5 first !also;", 1);
    bad("desk days 5 first !0;", 1);
    bad("desk days 5 first mo !- tu;", 1);
  }

  /** feast: NAME DAY {DAY}: DAYS in any order, none twice. */
  private static void feastDays() {
    bad("desk days 5 first mo;feast a!;", 1);
    bad("desk days 5 first mo;feast a!", 1);
    good("desk days 5 first mo;feast a 0;", 2);
    good("desk days 5 first mo;feast a 4;", 2);
    bad("desk days 5 first mo;feast a !5;", 2);
    bad("desk days 5 first mo;feast a 4 !5;", 2);
    bad("desk days 5 first mo;feast a !-1;", 1);
    bad("desk days 5 first mo;feast a !4294967296;", 2);
    bad("desk days 1 first mo;feast a !1;", 2);
    bad("desk days 5 first mo;feast a 4 !4;", 2);
    bad("desk days 5 first mo;feast a 0 4 !0;", 2);
    bad("desk days 5 first mo;feast a 0 1 2 3 4 !2;", 2);
    bad("desk days 5 first mo;feast a 0 1 2 3 4 !5;", 2);
    bad("desk days 5 first mo;feast a 1 !a;", 1);
    CHECK.due("falling", Check.made("desk days 5 first mo;feast a 4 3 2 1 0;").feast(0), 31);
    CHECK.due("rising", Check.made("desk days 5 first mo;feast a 0 1 2 3 4;").feast(0), 31);
    CHECK.due("mixed", Check.made("desk days 5 first mo;feast a 2 4 0;").feast(0), 21);
    CHECK.due("all of the longest period",
        Check.made("desk days 28 first mo;feast a" + Check.also(ALL).substring(4) + ";").feast(0), ALL);
    DayWords x = Check.made("desk days 5 first mo;feast a 1 2;feast b 2 1;");
    CHECK.due("two feasts of the same days", x.feast(0) == x.feast(1) ? 1 : 0, 1);
  }

  /** ROUTE R 0 .. 9. */
  private static void routes() {
    String head = "desk days 5 first mo;train ";
    CHECK.due("route 0", Check.made(head + "0 at 7:never;").train(0, 0), 0);
    CHECK.due("route 9", Check.made(head + "9 at 7:never;").train(0, 0), 9);
    CHECK.due("route 009", Check.made(head + "009 at 7:never;").train(0, 0), 9);
    bad(head + "!10 at 7:never;", 2);
    bad(head + "!- 1 at 7:never;", 1);
    bad(head + "!4294967296 at 7:never;", 2);
    bad(head + "!a at 7:never;", 1);
    bad(head + "!;", 1);
  }

  /** MINUTE M 0 .. 1,439. */
  private static void minutes() {
    String head = "desk days 5 first mo;train 3 at ";
    CHECK.due("minute 0", Check.made(head + "0:never;").train(0, 1), 0);
    CHECK.due("minute 1439", Check.made(head + "1439:never;").train(0, 1), 1439);
    bad(head + "!1440:never;", 2);
    bad(head + "!- 1:never;", 1);
    bad(head + "!4294967296:never;", 2);
    bad(head + "!18446744073709551616:never;", 2);
    bad(head + "!1000000:never;", 2);
    bad(head + "!:never;", 1);
    bad(head + "1!,439:never;", 1);
  }

  /** FEASTS 0, 1 and TRAINS 0 .. 5 are numbered as they stand. */
  private static void numbering() {
    DayWords x = Check.made("desk days 5 first mo;train 5 at 0:mo;feast z 3;train 4 at 1:tu;train 3 at 2:we;feast a 4;"
        + "train 2 at 3:th;train 1 at 4:fr;train 0 at 5:never;");
    CHECK.due("feast 0", x.feast(0), 8);
    CHECK.due("feast 1", x.feast(1), 16);
    for (int t = 0; t < 6; t++) {
      CHECK.due("route " + t, x.train(t, 0), 5 - t);
      CHECK.due("minute " + t, x.train(t, 1), t);
      CHECK.due("days " + t, x.days(t), t == 5 ? 0 : 1 << t);
    }
    CHECK.due("train 6", x.train(6, 0), -2);
    CHECK.due("feast 2", x.feast(2), -2);
  }

  /** a FEAST is known behind its LINE. */
  private static void knownBehindItsLine() {
    bad("desk days 5 first mo;train 1 at 1:also !a;feast a 3;", 1);
    good("desk days 5 first mo;feast a 3;train 1 at 1:also a;", 3);
    bad("desk days 5 first mo;feast a 3;train 1 at 1:also a !b;feast b 4;", 1);
    good("desk days 5 first mo;feast a 3;train 1 at 1:also a;feast b 4;train 1 at 1:not b also a;", 5);
    bad("desk days 5 first mo;feast a 3;train 1 at 1:not !b;feast b 4;", 1);
    DayWords x = Check.made("desk days 5 first mo;feast a 3;");
    Check.desk(x, "desk days 5 first mo;");
    CHECK.due("a feast of the desk before", Check.tells(x, "also a"), -4);
    Check.desk(x, "desk days 5 first mo;feast a 3;!");
    CHECK.due("a feast of a desk that is none", Check.tells(x, "also a"), -4);
  }

  /** TOKENS, blanks (32, 10) aside. */
  private static void blanks() {
    good("desk\ndays\n5\nfirst\nmo\n;\n", 1);
    good("  desk  days  5  first  mo  ;  ", 1);
    good("\n \n", 0);
    for (int sign : new int[] {0, 9, 11, 12, 13, 31, 33, 127, 128, 138, 160, 255}) {
      String text = "desk days 5 first mo;" + (char) sign;
      DayWords x = new DayWords();
      CHECK.due("desk and sign " + sign, Check.desk(x, text), -4);
      CHECK.due("fault of sign " + sign, x.fault(0), 1);
      CHECK.due("place of sign " + sign, x.fault(1), 21);
    }
    bad("!\tdesk days 5 first mo;", 1);
    bad("desk!\tdays 5 first mo;", 1);
    bad("desk days 5!\r first mo;", 1);
  }

  /** the longest: words (a .. z), numbers (digits), the signs ; : - . */
  private static void theLongestTokens() {
    bad("!deskdays 5 first mo;", 1);
    good("desk days5first mo;", 1);
    good("desk days 5first mo;train 1at 1:mo-fr not3also4;", 2);
    bad("desk days 5 first mo;train 1 at 1:!motu;", 1);
    bad("desk days 1 !2 first mo;", 1);
    CHECK.due("twelve days", Check.made("desk days 12 first mo;").count(0), 12);
    bad("!Desk days 5 first mo;", 1);
    bad("!dEsk days 5 first mo;", 1);
    for (char sign : new char[] {'`', '{', '@', '[', '/', '<', '.', ',', '_', '+', '*', '='}) {
      faulty("mo !" + sign, 1);
    }
    faulty("!z", 1);
    faulty("mo not !z", 1);
    good("desk days 5 first mo;feast az 1;feast za 2;train 9 at 10:also az za 0 4;", 4);
  }

  /** NAMES: words of at most 8 letters, none of desk .. su; none twice. */
  private static void names() {
    String head = "desk days 5 first mo;feast ";
    good(head + "a 1;", 2);
    good(head + "abcdefgh 1;", 2);
    good(head + "zzzzzzzz 1;", 2);
    bad(head + "!abcdefghi 1;", 2);
    bad(head + "!zzzzzzzzz 1;", 2);
    bad(head + "!" + "a".repeat(300) + " 1;", 2);
    bad(head + "!1 1;", 1);
    bad(head + "!; 1;", 1);
    bad(head + "!", 1);
    for (String word : KEYWORDS.split(" ")) {
      bad(head + "!" + word + " 1;", 2);
      good(head + word + "x 1;", 2);
      good(head + "x" + word + " 1;", 2);
    }
    bad(head + "a 1;feast !a 2;", 2);
    bad(head + "abcdefgh 1;feast !abcdefgh 2;", 2);
    good(head + "abcdefgh 1;feast abcdefg 2;", 3);
    good(head + "abcdefgh 1;feast abcdefgi 2;", 3);
    good(head + "abcdefgh 1;feast bbcdefgh 2;", 3);
    good(head + "a 1;feast aa 2;", 3);
    DayWords x = Check.made(head + "abcdefgh 1;feast abcdefgi 2;");
    CHECK.due("a name of eight", Check.tells(x, "also abcdefgi"), 1);
    CHECK.due("its day", x.told(0), 4);
    CHECK.due("a name of nine", Check.tells(x, "also abcdefghi"), -4);
    CHECK.due("its fault", x.told(2), 1);
  }

  /** FAULTS, the first by its place (a TOKEN's first byte; the end's). */
  private static void faultsByPlace() {
    bad("desk days !29 first xx;", 2);
    bad("desk days 5 first !xx;feast a 9 9;", 1);
    bad("desk days 5 first mo;feast a 1 !1 99 # ;desk", 2);
    bad("desk days 5 first mo;feast a 1;feast b 1;!feast 99 #", 3);
    bad("desk days 5 first mo;train 1 at 1:tu !mo ;desk #", 2);
    bad("!# desk days 99 first mo;", 1);
    bad("!a", 1);
    bad("desk!", 1);
    bad("desk   !", 1);
    bad("desk\n\n!", 1);
    faulty("!", 1);
    faulty("   !", 1);
    faulty("mo from   !", 1);
  }

  /** of one place the least. */
  private static void leastOfOnePlace() {
    // No NAME told (1), and of more than 8 letters (2).
    faulty("also !abcdefghi", 1);
    faulty("not !abcdefghi", 1);
    faulty("also aa !abcdefghi", 1);
    // A TOKEN that can't stand there (1), and a number that is out of all bounds (2).
    faulty("mo !99999", 1);
    faulty("never !99999", 1);
    faulty("!99999", 1);
    bad("desk days 5 first !99999;", 1);
    bad("desk days 5 first mo;feast !99999 1;", 1);
    bad("!99999", 1);
    // A SPAN that can't stand there (1), and a weekday that is not behind (2).
    faulty("tu from 3 !mo", 1);
    faulty("tu to 3 we from 5 !mo", 1);
    // A FEAST told already (2), a DAY out of bounds (2): no lesser one.
    faulty("also aa !aa", 2);
    faulty("also 27 !28", 2);
    // desk behind the first LINE (1) is no third feast, no seventh train (3).
    bad("desk days 5 first mo;feast a 1;feast b 1;!desk", 1);
    bad("desk days 5 first mo;feast a 1;feast b 1;!feasts", 1);
  }

  /** 3 a third feast, at its word. */
  private static void thirdFeast() {
    good("desk days 5 first mo;feast a 1;feast b 2;", 3);
    bad("desk days 5 first mo;feast a 1;feast b 2;!feast c 3;", 3);
    bad("desk days 5 first mo;feast a 1;feast b 2;  !feast", 3);
    bad("desk days 5 first mo;feast a 1;train 1 at 1:mo;feast b 2;train 1 at 1:mo;!feast a 9 9 #", 3);
  }

  /** 3 a seventh train, at its word. */
  private static void seventhTrain() {
    String five = "train 1 at 1:mo;".repeat(5);
    good("desk days 5 first mo;" + five, 6);
    good("desk days 5 first mo;" + five + "train 1 at 1:mo;", 7);
    bad("desk days 5 first mo;" + five + "train 1 at 1:mo;!train 1 at 1:mo;", 3);
    bad("desk days 5 first mo;" + five + "train 1 at 1:mo;feast a 1;!train", 3);
    bad("desk days 5 first mo;" + five + "train 1 at 1:mo;\n\n!train 99 99", 3);
    bad("desk days 5 first mo;" + five + "train 1 at !9999:mo;train 1 at 1:mo;", 2);
  }

  /** The TAPE when it is empty and when it is full. */
  private static void tapes() {
    good("desk days 5 first mo;" + " ".repeat(579), 1);
    good(" ".repeat(579) + "desk days 5 first mo;", 1);
    good(" ".repeat(600), 0);
    bad(" ".repeat(580) + "desk days 5 first mo!", 1);
    bad("desk days 5 first mo;" + " ".repeat(578) + "!;", 1);
    bad("desk days " + "0".repeat(589) + "5!", 1);
    bad("!" + ";".repeat(600), 1);
    bad("!" + "9".repeat(600), 1);
    bad("!" + "a".repeat(600), 1);
    good("desk days " + "0".repeat(578) + "5 first mo;", 1);
    bad("desk days !" + "0".repeat(579) + " first mo;", 2);
    DayWords x = Check.made("desk days 5 first mo;");
    CHECK.due("tells of an empty tape", x.tells(), -4);
    CHECK.due("its fault", x.told(2), 1);
    CHECK.due("its place", x.told(3), 0);
    CHECK.due("tells of a full tape", Check.tells(x, "daily" + " ".repeat(595)), 5);
    CHECK.due("tells of a full tape of blanks", Check.tells(x, " ".repeat(600)), -4);
    CHECK.due("its fault", x.told(2), 1);
    CHECK.due("its place", x.told(3), 600);
    CHECK.due("tells of a long number", Check.tells(x, "also " + "0".repeat(594) + "4"), 1);
    CHECK.due("its days", x.told(0), 16);
  }

  // Terms II

  /** WORDING: never | [SPAN {SPAN}] [not ENTRY {ENTRY}] [also ENTRY {ENTRY}] (not without all three). */
  private static void partsOfAWording() {
    faulty("!", 1);
    wording("never", 0, 1);
    faulty("never !never", 1);
    faulty("never !daily", 1);
    faulty("never !not 1", 1);
    faulty("never !also 1", 1);
    faulty("daily !never", 1);
    faulty("not 1 !never", 1);
    faulty("also 1 !never", 1);
    wording("daily", ALL, 1);
    wording("not 1", 0, 2);
    wording("also 1", 2, 2);
    wording("daily not 1", ALL - 2, 3);
    wording("daily to 1 also 3", 11, 5);
    wording("not 1 also 1", 2, 4);
    wording("daily not 1 2 also 2", ALL - 2, 6);
    faulty("also 1 !not 1", 1);
    faulty("not 1 !daily", 1);
    faulty("also 1 !daily", 1);
    faulty("not 1 !not 2", 1);
    faulty("also 1 !also 2", 1);
    faulty("not!", 1);
    faulty("also!", 1);
    faulty("not !also 1", 1);
    faulty("daily not!", 1);
    faulty("daily not 1 also!", 1);
  }

  /** PATTERN: daily | ITEM {ITEM}: each ITEM is behind the one ahead of it in the week. */
  private static void items() {
    for (int a = 0; a < 7; a++) {
      wording(WEEKDAYS[a], of(1 << a, 0, 27), 1);
      for (int b = 0; b < 7; b++) {
        if (b > a) {
          wording(WEEKDAYS[a] + " " + WEEKDAYS[b], of(1 << a | 1 << b, 0, 27), 2);
        } else {
          faulty(WEEKDAYS[a] + " !" + WEEKDAYS[b], 2);
        }
      }
    }
    wording("mo tu we th fr sa su", ALL, 7);
    faulty("mo tu we th fr sa su !su", 2);
    faulty("mo tu we th fr sa su !mo", 2);
    faulty("mo tu we th fr sa su !daily", 1);
    faulty("daily !mo", 1);
    faulty("mo !daily", 1);
    faulty("daily !daily", 1);
  }

  /** ITEM: W | W - W (the second one later in the week). */
  private static void rows() {
    for (int a = 0; a < 7; a++) {
      for (int b = 0; b < 7; b++) {
        if (b > a) {
          int row = (1 << b + 1) - (1 << a);
          wording(WEEKDAYS[a] + " - " + WEEKDAYS[b], of(row, 0, 27), 3);
          faulty(WEEKDAYS[a] + " - " + WEEKDAYS[b] + " !" + WEEKDAYS[b], 2);
          faulty(WEEKDAYS[a] + " - " + WEEKDAYS[b] + " !" + WEEKDAYS[a], 2);
          faulty(WEEKDAYS[a] + " - " + WEEKDAYS[b] + " !- su", 1);
          if (b < 6) {
            wording(WEEKDAYS[a] + " - " + WEEKDAYS[b] + " " + WEEKDAYS[b + 1], of(row | 2 << b, 0, 27), 4);
          }
          if (b < 5) {
            wording(WEEKDAYS[a] + " - " + WEEKDAYS[b] + " " + WEEKDAYS[b + 1] + " - su", of(row | 127 - row & -(2 << b), 0, 27), 6);
          }
        } else {
          faulty(WEEKDAYS[a] + " - !" + WEEKDAYS[b], 2);
        }
      }
    }
    faulty("mo -!", 1);
    faulty("mo - !- tu", 1);
    faulty("mo - !daily", 1);
    faulty("mo - !1", 1);
    faulty("mo - !aa", 1);
    faulty("!- tu", 1);
    faulty("daily !- su", 1);
    faulty("mo tu - !tu", 2);
    wording("mo tu - we", of(7, 0, 27), 4);
  }

  /** Without from it begins on DAY 0, without to it ends on the last DAY. */
  private static void withoutFromOrTo() {
    wording("daily", ALL, 1);
    wording("daily to 0", 1, 3);
    wording("daily from 27", 1 << 27, 3);
    wording("daily from 0", ALL, 3);
    wording("daily to 27", ALL, 3);
    wording("daily from 0 to 27", ALL, 5);
    wording("mo from 1", of(1, 7, 27), 3);
    wording("mo to 20", of(1, 0, 14), 3);
    wording("mo to 21", of(1, 0, 21), 3);
    wording("mo from 21", 1 << 21, 3);
    wording("mo from 22", 0, 3);
  }

  /** SPAN: PATTERN [from DAY] [to DAY]: to is not ahead of its from. */
  private static void fromAndTo() {
    faulty("daily from !28", 2);
    faulty("daily to !28", 2);
    faulty("daily from 27 to !28", 2);
    faulty("daily from !4294967296", 2);
    faulty("daily to !4294967296", 2);
    faulty("daily from !- 1", 1);
    faulty("daily to !- 1", 1);
    wording("daily from 27 to 27", 1 << 27, 5);
    wording("daily from 0 to 0", 1, 5);
    faulty("daily from 27 to !26", 2);
    faulty("daily from 1 to !0", 2);
    faulty("daily from 9 to !8", 2);
    wording("daily from 9 to 9", 1 << 9, 5);
    wording("daily from 9 to 10", 3 << 9, 5);
    faulty("daily from!", 1);
    faulty("daily to!", 1);
    faulty("daily from !to 3", 1);
    faulty("daily from !aa", 1);
    faulty("daily to 3 !from 1", 1);
    faulty("daily from 3 !from 4", 1);
    faulty("daily to 3 !to 4", 1);
    faulty("daily from 3 to 4 !to 5", 1);
    faulty("!from 3", 1);
    faulty("!to 3", 1);
    faulty("daily from 3 !4", 1);
    faulty("daily from 3 to 4 !5", 1);
  }

  /** behind a SPAN without to none can stand (1, at its first TOKEN). */
  private static void behindASpanWithoutTo() {
    faulty("daily !mo from 3", 1);
    faulty("mo !daily from 3", 1);
    faulty("daily from 3 !mo from 9", 1);
    faulty("daily from 27 !mo", 1);
    faulty("mo from 3 !tu from 9 to 10", 1);
    faulty("mo to 3 tu from 5 !we from 9", 1);
    faulty("mo to 3 tu from 5 !mo", 1);
    wording("mo to 3 tu from 5 to 7 we from 9", 1 | of(4, 9, 27), 11);
    wording("mo from 3 not 7", of(1, 14, 27), 5);
    wording("mo from 3 also 0", of(1, 0, 27), 5);
  }

  /** one behind another has a from (1, where that must stand), with a DAY behind the other's last one (2). */
  private static void oneBehindAnother() {
    faulty("mo to 3 tu!", 1);
    faulty("mo to 3 tu !to 5", 1);
    faulty("mo to 3 tu !not 5", 1);
    faulty("mo to 3 tu !also 5", 1);
    faulty("mo to 3 tu - we !to 5", 1);
    faulty("mo to 3 daily!", 1);
    faulty("mo to 3 daily !daily from 5", 1);
    faulty("mo to 3 daily !mo", 1);
    faulty("mo to 3 mo !aa", 1);
    faulty("mo to 0 mo!", 1);
    faulty("mo to 3 tu from !3", 2);
    faulty("mo to 3 tu from !0", 2);
    faulty("mo to 3 tu from !28", 2);
    faulty("mo to 3 tu from!", 1);
    faulty("daily to 0 daily from !0", 2);
    wording("daily to 0 daily from 1", ALL, 6);
    wording("daily to 3 daily from 4", ALL, 6);
    wording("daily to 3 daily from 5", ALL - 16, 6);
    wording("daily to 26 daily from 27", ALL, 6);
    faulty("daily to 27 daily from !27", 2);
    faulty("daily to 27 daily from !28", 2);
    faulty("daily to 27 daily!", 1);
    wording("daily to 27 not 3", ALL - 8, 5);
    faulty("daily from 3 to 5 daily from !5", 2);
    faulty("daily from 3 to 5 daily from !4", 2);
    faulty("daily from 3 to 5 daily from 6 to !5", 2);
    wording("daily from 3 to 5 daily from 6 to 6", 8 | 16 | 32 | 64, 10);
    faulty("daily to 1 daily from 3 to 5 daily from !2", 2);
  }

  /** {SPAN}: as many as there are DAYS. */
  private static void mostSpans() {
    StringBuilder all = new StringBuilder("su to 0");
    int days = 0;
    for (int d = 1; d < 28; d++) {
      all.append(' ').append(WEEKDAYS[d % 7]).append(" from ").append(d).append(" to ").append(d);
      days |= 1 << d;
    }
    wording(all.toString(), days, 3 + 27 * 5);
    faulty(all + " mo from !27", 2);
    faulty(all + " mo from !28", 2);
    faulty(all + " mo!", 1);
    wording(all + " not 27 also 0", ALL - (1 << 27), 3 + 27 * 5 + 4);
  }

  /** ENTRY: DAY | NAME of a FEAST; none twice behind one not, one also. */
  private static void entries() {
    wording("also 0", 1, 2);
    wording("also 27", 1 << 27, 2);
    faulty("also !28", 2);
    faulty("also !- 1", 1);
    faulty("also !4294967296", 2);
    faulty("not !28", 2);
    wording("daily not 0", ALL - 1, 3);
    wording("daily not 27", ALL - (1 << 27), 3);
    faulty("also 3 !3", 2);
    faulty("also 3 !03", 2);
    faulty("not 3 !3", 2);
    faulty("also 3 4 aa 5 !3", 2);
    faulty("not aa !aa", 2);
    faulty("also bb 1 aa !bb", 2);
    // Once behind each of them; a FEAST beside a DAY of its own.
    wording("daily not 3 also 3", ALL, 5);
    wording("daily not aa also aa", ALL, 5);
    wording("also aa 0 27", 1 | 1 << 27, 4);
    wording("also 0 27 aa", 1 | 1 << 27, 4);
    wording("also 9 3 bb", 1 << 9 | 8, 4);
    faulty("also !cc", 1);
    faulty("also !a", 1);
    faulty("also !aaa", 1);
    faulty("not aa !cc", 1);
    for (String word : KEYWORDS.split(" ")) {
      faulty("not !" + word, 1);
      faulty("also !" + word, 1);
      if (!word.equals("also")) {
        faulty("not aa !" + word, 1);
      }
      faulty("also 3 !" + word, 1);
    }
    String full = Check.also(ALL) + " aa bb";
    wording(full, ALL, 31);
    wording(full.replace("also", "daily not"), 0, 32);
    wording("daily not" + full.substring(4) + " " + full, ALL, 63);
    faulty(full + " !0", 2);
    faulty(full + " !27", 2);
    faulty(full + " !28", 2);
    faulty(full + " !aa", 2);
    faulty(full + " !bb", 2);
    faulty(full + " !cc", 1);
    faulty(full + " !not 1", 1);
  }

  /** It ends ahead of the ; of its LINE (at the end of the TAPE, if it is told alone: a ; can't stand there). */
  private static void ends() {
    faulty("!;", 1);
    faulty("never!;", 1);
    faulty("daily!;", 1);
    faulty("daily not 3 !;", 1);
    faulty("also 3!; ", 1);
    faulty("mo!:", 1);
    bad(LONG + "train 1 at 1:daily!", 1);
    bad(LONG + "train 1 at 1:daily !train 1 at 1:daily;", 1);
    bad(LONG + "train 1 at 1:!;", 1);
    bad(LONG + "train 1 at 1:also 1 !:;", 1);
    DayWords x = Check.made(LONG + "train 1 at 1:mo;");
    CHECK.due("sets with a ;", Check.sets(x, 0, "daily;"), -4);
    CHECK.due("sets without", Check.sets(x, 0, "daily"), 28);
  }

  /** DAYS of a WORDING: those in a SPAN; less DAYS behind not, of FEASTS; with DAYS behind also, of FEASTS. */
  private static void daysOfAWording() {
    wording("never", 0, 1);
    wording("daily not aa", ALL - 1 - (1 << 27), 3);
    wording("mo not 1", of(1, 0, 27), 3);
    wording("daily not aa also 0", ALL - (1 << 27), 5);
    wording("daily not 0 also aa", ALL, 5);
    wording("mo also 0", of(1, 0, 27), 3);
    wording("not 5 also 6", 64, 4);
    wording("mo to 0 su from 27", 1 | 1 << 27, 6);
    DayWords x = Check.made("desk days 3 first sa;");
    CHECK.due("a weekday that the period has not", Check.tells(x, "we"), 0);
    CHECK.due("a row over the week's ends", Check.tells(x, "mo sa su"), 3);
  }

  /** Its TOKENS are all words, numbers, signs in it. */
  private static void tokensOfAWording() {
    wording("never", 0, 1);
    wording("mo-su", ALL, 3);
    wording("mo-tu we-th fr-sa su", ALL, 10);
    wording("daily from 00 to 027 not 1 also 1", ALL, 9);
    wording("  mo  \n", of(1, 0, 27), 1);
  }

  // Terms III

  /** The text of WORDS of DAYS in a DESK of one TRAIN. */
  private static void text(String head, String told, String want, long ways) {
    DayWords x = Check.made(head + "train 1 at 1:" + told + ";");
    CHECK.due(head + " text of " + told, Check.text(x, 0), want);
    CHECK.due(head + " tokens of " + told, x.words(0), want.split(" ").length);
    CHECK.due(head + " signs of " + told, x.length(0), want.length());
    CHECK.due(head + " ways of " + told, x.ways(0), ways);
  }

  /** an ITEM W - W is of three or more weekdays, other weekdays stand alone, all seven are daily. */
  private static void rowsInWords() {
    String head = "desk days 28 first mo;";
    text(head, "mo - su", "daily", 1);
    text(head, "mo tu we th fr sa su", "daily", 1);
    text(head, "mo", "mo", 1);
    text(head, "su", "su", 1);
    text(head, "mo - tu", "mo tu", 1);
    text(head, "sa - su", "sa su", 1);
    text(head, "mo tu we", "mo - we", 1);
    text(head, "fr sa su", "fr - su", 1);
    text(head, "mo tu we th fr sa", "mo - sa", 1);
    text(head, "tu we th fr sa su", "tu - su", 1);
    text(head, "mo tu fr sa su", "mo tu fr - su", 1);
    // As short as daily without the four th.
    text(head, "mo - we fr - su", "mo - we fr - su", 2);
    // Over the week's end there is no row.
    text(head, "mo sa su", "mo sa su", 1);
    text(head, "mo tu sa su", "mo tu sa su", 1);
    text(head, "mo we fr su", "mo we fr su", 1);
  }

  /** from DAY 0, to the last DAY are not told. */
  private static void boundsInWords() {
    String head = "desk days 28 first mo;";
    text(head, "daily from 0 to 27", "daily", 1);
    text(head, "daily to 13", "daily to 13", 1);
    text(head, "daily to 26", "daily to 26", 2);
    text(head, "daily from 0 to 25", "daily to 25", 1);
    text(head, "daily from 14 to 27", "daily from 14", 1);
    text(head, "daily from 1", "daily from 1", 2);
    text(head, "daily from 2", "daily from 2", 1);
    text(head, "daily from 2 to 25", "daily from 2 to 25", 1);
    DayWords x = Check.made(head + "train 1 at 1:daily to 26;train 1 at 1:daily from 1;");
    CHECK.due("first", x.span(0, 0, 0), 0);
    CHECK.due("last", x.span(0, 0, 1), 26);
    CHECK.due("first", x.span(1, 0, 0), 1);
    CHECK.due("last", x.span(1, 0, 1), 27);
  }

  /** Of several: never. */
  private static void neverFirst() {
    for (int n = 1; n <= 8; n++) {
      for (int w = 0; w < 7; w++) {
        text("desk days " + n + " first " + WEEKDAYS[w] + ";", "never", "never", 1 + Math.max(0, 7 - n));
      }
    }
    text("desk days 28 first mo;feast a 3;", "mo not 0 7 14 21", "never", 1);
    text("desk days 28 first mo;feast a 3;", "not a", "never", 1);
  }

  /** then by FEASTS behind not, as bits, the least first, then by those behind also. */
  private static void fewerFeastsFirst() {
    // A DAY is told ahead of a FEAST of that DAY alone.
    text("desk days 28 first mo;feast a 9;", "daily not 9", "daily not 9", 2);
    text("desk days 28 first mo;feast a 9;", "also 9", "also 9", 2);
    text("desk days 28 first mo;feast a 9;feast b 9;", "daily not b", "daily not 9", 3);
    // FEAST 0 ahead of FEAST 1.
    text("desk days 28 first mo;feast b 9 11;feast a 11 9;", "daily not a", "daily not b", 2);
    text("desk days 28 first mo;feast b 9 11;feast a 11 9;", "also a", "also b", 2);
    // Behind not none is ahead of one, whatever stands behind also.
    DayWords x = Check.made("desk days 28 first mo;feast a 9 11;feast b 12;train 1 at 1:daily not 9 11 also 12;");
    CHECK.due("nots", x.nots(0, 0), 1);
    CHECK.due("alsos", x.alsos(0, 0), 0);
  }

  /** no SPAN begins there ahead of that one does. */
  private static void laterSpansFirst() {
    String head = "desk days 28 first mo;";
    text(head, "mo from 7", "mo from 7", 8);
    // Two su: by a SPAN from one of seven DAYS on, or alone.
    text(head, "su from 20", "also 20 27", 8);
    text(head, "mo - fr from 12", "mo - fr from 14", 3);
    text(head, "also 0", "also 0", 1);
    text(head, "daily from 5 to 6", "also 5 6", 1);
    // Four DAYS alone are as short as a SPAN of them, as one with the last DAY left out, as sa, su, both with the others.
    text("desk days 10 first mo;", "daily from 5 to 8", "also 5 6 7 8", 6);
  }

  /** of SPANS that begin there that with the earlier last DAY. */
  private static void earlierLastsFirst() {
    String head = "desk days 28 first mo;";
    text(head, "mo to 14", "mo to 14", 8);
    text(head, "tu to 15", "tu to 15", 8);
    // The earlier last DAY is ahead, whatever the weekdays.
    text("desk days 4 first mo;", "mo - we", "daily to 2", 3);
    DayWords x = Check.made(head + "train 1 at 1:mo to 20;");
    CHECK.due("the earliest last", x.span(0, 0, 1), 14);
    CHECK.due("its first", x.span(0, 0, 0), 0);
  }

  /** then that with lesser weekdays (as bits, bit 0 mo). */
  private static void lesserWeekdaysFirst() {
    for (int w = 0; w < 7; w++) {
      // One DAY: its weekday, and daily, of which the weekday alone is less.
      text("desk days 1 first " + WEEKDAYS[w] + ";", "daily", WEEKDAYS[w], 2);
    }
    // Two DAYS: daily alone has one TOKEN.
    text("desk days 2 first mo;", "daily", "daily", 1);
    text("desk days 3 first mo;", "mo tu", "mo tu", 1);
    // The PERIOD has no su: th - sa, th - su, and daily without two DAYS are as short.
    text("desk days 6 first mo;", "mo th - su", "mo th - sa", 3);
    DayWords x = Check.made("desk days 6 first mo;train 1 at 1:mo th - su;");
    CHECK.due("lesser weekdays", x.span(0, 0, 2), 57);
    CHECK.due("the same bounds", x.span(0, 0, 1), 5);
  }

  /** They are written TOKEN by TOKEN, a blank (32) between two; FEASTS (0 ahead of 1) ahead of DAYS, these in order. */
  private static void written() {
    String head = "desk days 28 first mo;feast zzzzzzzz 5 13 27;feast a 8 16 24;";
    text(head, "never", "never", 1);
    text(head, "also a zzzzzzzz", "also zzzzzzzz a", 1);
    text(head, "daily not 10 9 a zzzzzzzz", "daily not zzzzzzzz a 9 10", 1);
    text(head, "mo - fr not a 2 also zzzzzzzz", "mo - fr not a 2 also zzzzzzzz", 1);
    text("desk days 28 first mo;", "also 10 9", "also 9 10", 1);
    text("desk days 28 first mo;", "also 27 0 11", "also 0 11 27", 1);
    text("desk days 28 first mo;", "daily not 10 9", "daily not 9 10", 1);
    DayWords x = Check.made(head + "train 1 at 1:daily not 10 9 a zzzzzzzz;");
    CHECK.due("the first sign", x.sign(0, 0), 'd');
    CHECK.due("a blank", x.sign(0, 5), 32);
    CHECK.due("the last sign", x.sign(0, x.length(0) - 1), '0');
    CHECK.due("none behind it", x.sign(0, x.length(0)), -1);
  }
}
