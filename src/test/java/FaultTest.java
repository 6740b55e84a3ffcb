/** The FAULTS of Terms I and II, by desk() and by tells(), and WORDINGS that have none. */
public final class FaultTest {
  private static final Check CHECK = new Check();
  private static final String HEAD = "desk days 9 first we;";
  private static final String FEAST = HEAD + "feast ab 1 2;";

  public static void main(String[] args) {
    heads();
    feasts();
    trains();
    wordings();
    goodWordings();
    signs();
    CHECK.finish("FaultTest");
  }

  /** The place is where '!' stands in the text; it is taken out. */
  private static void desk(String marked, int fault) {
    int place = marked.indexOf('!');
    String text = marked.replace("!", "");
    DayWords x = new DayWords();
    CHECK.due("desk " + marked, Check.desk(x, text), -4);
    CHECK.due("fault of " + marked, x.fault(0), fault);
    CHECK.due("place of " + marked, x.fault(1), place);
    CHECK.due("no desk by " + marked, x.count(0), 0);
    CHECK.due("tape of " + marked, x.count(6), 0);
  }

  private static void heads() {
    desk("!;", 1);
    desk("!train 1 at 1:never;", 1);
    desk("!feast a 1;", 1);
    desk("!days 3", 1);
    desk("!5", 1);
    desk("  !x", 1);
    desk("desk!", 1);
    desk("desk !first", 1);
    desk("desk !28", 1);
    desk("desk days!", 1);
    desk("desk days !first", 1);
    desk("desk days !0 first mo;", 2);
    desk("desk days !29 first mo;", 2);
    desk("desk days !99999999999999999999999999 first mo;", 2);
    desk("desk days !4294967297 first mo;", 2);
    desk("desk days !18446744073709551617 first mo;", 2);
    desk("desk days 3 !3 first mo;", 1);
    desk("desk days 3!;", 1);
    desk("desk days!;", 1);
    desk("desk!;", 1);
    desk("desk days 3 !mo;", 1);
    desk("desk days 3 first !may;", 1);
    desk("desk days 3 first !mod;", 1);
    desk("desk days 3 first !daily;", 1);
    desk("desk days 3 first !;", 1);
    desk("desk days 3 first !3;", 1);
    desk("desk days 3 first mo!", 1);
    desk("desk days 3 first mo  !", 1);
    desk("desk days 3 first mo !tu;", 1);
    desk("desk days 3 first mo !:", 1);
    desk(HEAD + "!;", 1);
    desk(HEAD + "!desk days 3 first mo;", 1);
    desk(HEAD + "!never;", 1);
    desk(HEAD + "!4;", 1);
    desk(HEAD + "!tram;", 1);
    desk(HEAD + "!trains 1 at 1:never;", 1);
    desk("!desks days 3 first mo;", 1);
    desk("!Desk days 3 first mo;", 1);
    desk("desk days !-3 first mo;", 1);
  }

  private static void feasts() {
    desk(HEAD + "feast!", 1);
    desk(HEAD + "feast !;", 1);
    desk(HEAD + "feast !1;", 1);
    desk(HEAD + "feast !- 1;", 1);
    desk(HEAD + "feast !abcdefghi 1;", 2);
    desk(HEAD + "feast !abcdefghijklmnopqrstuvwxyz 1;", 2);
    for (String word : "desk days first feast train at never daily from to not also mo tu we th fr sa su".split(" ")) {
      desk(HEAD + "feast !" + word + " 1;", 2);
    }
    desk(HEAD + "feast a!", 1);
    desk(HEAD + "feast a!;", 1);
    desk(HEAD + "feast a !b;", 1);
    desk(HEAD + "feast a 1 !b;", 1);
    desk(HEAD + "feast a !9;", 2);
    desk(HEAD + "feast a 8 !9;", 2);
    desk(HEAD + "feast a 8 0 !8;", 2);
    desk(HEAD + "feast a 8 0 !08;", 2);
    desk(HEAD + "feast a 0 1 2 3 4 5 6 7 8 !0;", 2);
    desk(HEAD + "feast a 0 1 2 3 4 5 6 7 8!", 1);
    desk(HEAD + "feast a 1!-2;", 1);
    desk(HEAD + "feast a 1;feast !a 2;", 2);
    desk(HEAD + "feast a 1;feast b 2;!feast c 3;", 3);
    desk(HEAD + "feast a 1;feast b 2;!feast", 3);
    desk(HEAD + "feast a 1;feast b 2;!feast a 99", 3);
    CHECK.due("names alike at first", Check.desk(new DayWords(), HEAD + "feast abcdefgh 1;feast abcdefg 1;"), 3);
    CHECK.due("names near the words", Check.desk(new DayWords(), HEAD + "feast mon 1;feast dail 1;"), 3);
  }

  private static void trains() {
    desk(HEAD + "train!", 1);
    desk(HEAD + "train !;", 1);
    desk(HEAD + "train !at 1:never;", 1);
    desk(HEAD + "train !10 at 1:never;", 2);
    desk(HEAD + "train 9 !1:never;", 1);
    desk(HEAD + "train 9 at !1440:never;", 2);
    desk(HEAD + "train 9 at !:never;", 1);
    desk(HEAD + "train 9 at 1439 !never;", 1);
    desk(HEAD + "train 9 at 1439!;", 1);
    desk(HEAD + "train 9 at 1439:!;", 1);
    desk(HEAD + "train 9 at 1439:!", 1);
    desk(HEAD + "train 9 at 1439:never!", 1);
    desk(HEAD + "train 9 at 1439:never !never;", 1);
    desk(HEAD + "train 9 at 1439:never !train", 1);
    desk(HEAD + "train 9 at 1439:never;!;", 1);
    desk(HEAD + "train 9 at 1439:mo !:", 1);
    desk(HEAD + "train 9!;", 1);
    desk(HEAD + "train 9 at!;", 1);
    desk(HEAD + "feast zz 1;feast az 2;train 1 at 1:not zz az !zz;", 2);
    desk(HEAD + "feast zz 1;feast az 2;train 1 at 1:also zz 1 az !az;", 2);
    desk(HEAD + "feast zz 1;feast az 2;train 1 at 1:also zz !z;", 1);
    String all = Check.also((1 << 28) - 1) + " a b";
    desk("desk days 28 first mo;feast a 1;feast b 2;train 1 at 1:" + all + " !0;", 2);
    desk("desk days 28 first mo;feast a 1;feast b 2;train 1 at 1:" + all + " !b;", 2);
    desk("desk days 28 first mo;feast a 1;feast b 2;train 1 at 1:" + all + " !28;", 2);
    desk("desk days 28 first mo;feast a 1;feast b 2;train 1 at 1:" + all + " !c;", 1);
    String six = "train 1 at 1:mo;".repeat(6);
    desk(HEAD + six + "!train 1 at 1:mo;", 3);
    desk(HEAD + six + "!train", 3);
    desk(HEAD + six + "!trai", 1);
    desk(HEAD + "train 1 at 1:also !ab;feast ab 1;", 1);
    desk(FEAST + "train 1 at 1:also ab !abc;", 1);
    CHECK.due("six trains, two feasts", Check.desk(new DayWords(), HEAD + six + "feast a 1;feast b 2;"), 9);
  }

  /** A WORDING told alone and as that of a TRAIN. */
  private static void wording(String marked, int fault) {
    int place = marked.indexOf('!');
    String text = marked.replace("!", "");
    DayWords x = Check.made(FEAST);
    CHECK.due("tells " + marked, Check.tells(x, text), -4);
    CHECK.due("fault of " + marked, x.told(2), fault);
    CHECK.due("place of " + marked, x.told(3), place);
    CHECK.due("days of " + marked, x.told(0), -1);
    CHECK.due("tokens of " + marked, x.told(1), -1);
    CHECK.due("worse " + marked, x.worse(), -1);
    CHECK.due("fault(0) stays", x.fault(0), 0);
    if (!marked.endsWith("!;")) {
      desk(FEAST + "train 1 at 1:" + marked + ";", fault);
    }
  }

  private static void wordings() {
    wording("!", 1);
    wording("  \n!", 1);
    wording("!;", 1);
    wording("mo!;", 1);
    wording("never!;", 1);
    wording("!from 3", 1);
    wording("!to 3", 1);
    wording("!ab", 1);
    wording("!3", 1);
    wording("!-", 1);
    wording("never !mo", 1);
    wording("never !not 3", 1);
    wording("mo !never", 1);
    wording("mo !mo", 2);
    wording("tu !mo", 2);
    wording("mo tu su !mo", 2);
    wording("mo tu we th fr sa su !mo", 2);
    wording("mo tu we th fr sa su !su", 2);
    wording("mo - we !tu", 2);
    wording("mo - we !we", 2);
    wording("mo - su !su", 2);
    wording("mo - !mo", 2);
    wording("we - !tu", 2);
    wording("mo -!", 1);
    wording("mo - !daily", 1);
    wording("mo - !3", 1);
    wording("mo - !from 3", 1);
    wording("mo - we !- fr", 1);
    wording("daily !- fr", 1);
    wording("daily !mo", 1);
    wording("daily !daily", 1);
    wording("mo !daily", 1);
    wording("mo !3", 1);
    wording("mo !ab", 1);
    wording("mo from!", 1);
    wording("mo from !to", 1);
    wording("mo from !ab", 1);
    wording("mo from !9", 2);
    wording("mo to !9", 2);
    wording("mo to!", 1);
    wording("mo to !ab", 1);
    wording("mo from 3 !from 4", 1);
    wording("mo to 3 !from 4", 1);
    wording("mo to 3 !to 4", 1);
    wording("mo from 5 to !4", 2);
    wording("mo from 5 to !9", 2);
    wording("mo from 3 !tu", 1);
    wording("mo from 3 !daily to 4", 1);
    wording("mo to 3 tu!", 1);
    wording("mo to 0 tu!", 1);
    wording("mo to 0 tu !to 5", 1);
    wording("mo to 3 tu !to 5", 1);
    wording("mo to 3 tu !not 5", 1);
    wording("mo to 3 tu !daily", 1);
    wording("mo to 3 tu !mo", 2);
    wording("mo to 3 daily !tu from 4", 1);
    wording("mo to 3 tu from !3", 2);
    wording("mo to 3 tu from !0", 2);
    wording("mo to 3 tu from !9", 2);
    wording("mo to 3 tu from 5 to !4", 2);
    wording("mo to 3 tu from 5 to 6 we from !6", 2);
    wording("mo to 3 tu from 5 !we from 7", 1);
    wording("mo to 8 tu from !8", 2);
    wording("mo to 8 tu!", 1);
    wording("not!", 1);
    wording("not !also 3", 1);
    wording("not !mo", 1);
    wording("not !9", 2);
    wording("not 3 !3", 2);
    wording("not 3 4 ab !3", 2);
    wording("not ab !ab", 2);
    wording("not !abc", 1);
    wording("not !a", 1);
    wording("not !abcdefghijk", 1);
    wording("not 3 !abc", 1);
    wording("not 3 !mo", 1);
    wording("not 3 !from 4", 1);
    wording("not 3 !not 4", 1);
    wording("not 3 !- 4", 1);
    wording("also!", 1);
    wording("also !also", 1);
    wording("also 3 !also 4", 1);
    wording("also 3 !not 4", 1);
    wording("also 3 !mo", 1);
    wording("also 3 !3", 2);
    wording("also ab 3 !ab", 2);
    wording("also 0 1 2 3 4 5 6 7 8 ab !9", 2);
    wording("also 0 1 2 3 4 5 6 7 8 ab !8", 2);
    wording("mo not 3 also!", 1);
    wording("mo not 3 also !;", 1);
    wording("mo not 3 also 3 !never", 1);
    wording("also !99999999999999999999", 2);
    wording("mo !Tu", 1);
    wording("mo !.", 1);
    wording("mo !,tu", 1);
    wording("mo!\ttu", 1);
    wording("mo!\r\ntu", 1);
    wording("mo!\0", 1);
    wording("mo !\u00e9", 1);
    wording("!motu", 1);
    wording("not 3!x", 1);
    // The first by its place, whatever comes behind it.
    wording("tu !mo ; # 99", 2);
    wording("mo to !99 #", 2);
    wording("mo !# to 99", 1);
  }

  private static void good(String text, int days, int tokens) {
    DayWords x = Check.made(FEAST);
    CHECK.due("tells " + text, Check.tells(x, text), Integer.bitCount(days));
    CHECK.due("days of " + text, x.told(0), days);
    CHECK.due("tokens of " + text, x.told(1), tokens);
    CHECK.due("fault of " + text, x.told(2), 0);
    CHECK.due("place of " + text, x.told(3), -1);
    DayWords y = Check.made(FEAST + "train 1 at 1:" + text + ";");
    CHECK.due("days of a train by " + text, y.days(0), days);
  }

  /** DAY 0 is a we: we th fr sa su mo tu we th. */
  private static void goodWordings() {
    good("never", 0, 1);
    good("daily", 511, 1);
    good("mo", 1 << 5, 1);
    good("we", 1 << 0 | 1 << 7, 1);
    good("mo - su", 511, 3);
    good("mo - tu", 1 << 5 | 1 << 6, 3);
    good("mo-we fr", 1 << 0 | 1 << 2 | 1 << 5 | 1 << 6 | 1 << 7, 4);
    good("mo - we th - su", 511, 6);
    good("mo tu we th fr sa su", 511, 7);
    good("daily from 0 to 8", 511, 5);
    good("daily from 3", 511 - 7, 3);
    good("daily to 3", 15, 3);
    good("daily from 3 to 3", 8, 5);
    good("mo to 3", 0, 3);
    good("we to 6 th from 7", 1 | 1 << 8, 6);
    good("daily to 0 daily from 1 to 1 daily from 8", 1 | 2 | 256, 11);
    good("daily to 8", 511, 3);
    good("not 3", 0, 2);
    good("not ab", 0, 2);
    good("also ab", 6, 2);
    good("not 3 also 3", 8, 4);
    good("not ab also 2", 4, 4);
    good("daily not ab 3", 511 - 14, 4);
    good("daily not 3 ab 1", 511 - 14, 5);
    good("daily not ab also ab", 511, 5);
    good("daily not ab also 1", 511 - 4, 5);
    good("we also 8 ab 0", 1 | 6 | 128 | 256, 5);
    good("also 0 1 2 3 4 5 6 7 8 ab", 511, 11);
    good("daily not 8 7 6 5 4 3 2 1 0 ab", 0, 12);
    good("daily from 0003 to 00000000000000000000005", 56, 5);
    good("\n mo\n\n-   we\n", 1 << 0 | 1 << 5 | 1 << 6 | 1 << 7, 3);
    good("not3also4", 16, 4);
  }

  /** Every byte that is no blank, letter, digit or sign is a TOKEN that is none. */
  private static void signs() {
    for (int sign = 0; sign < 256; sign++) {
      boolean blank = sign == 32 || sign == 10;
      DayWords x = Check.made(FEAST);
      int want = blank ? 1 : -4;
      CHECK.due("tells mo and sign " + sign, Check.tells(x, "mo " + (char) sign), want);
      if (!blank) {
        CHECK.due("fault of sign " + sign, x.told(2), 1);
        // "mo -" ends too early, which is the end's fault.
        CHECK.due("place of sign " + sign, x.told(3), sign == '-' ? 4 : 3);
      }
    }
  }
}
