/** Promises 1 to 9: a new object, the TAPE, the DESK and what it holds. */
public final class DeskTest {
  private static final Check CHECK = new Check();

  public static void main(String[] args) {
    newObject();
    feedAndEnd();
    deskTold();
    deskReplaced();
    deskFaulty();
    periods();
    CHECK.finish("DeskTest");
  }

  private static void newObject() {
    DayWords x = new DayWords();
    CHECK.due("NONE", DayWords.NONE, -1);
    for (int what = 0; what < 7; what++) {
      CHECK.due("new count " + what, x.count(what), 0);
    }
    CHECK.due("new count 7", x.count(7), -1);
    CHECK.due("new count -1", x.count(-1), -1);
    CHECK.due("new fault 0", x.fault(0), 0);
    CHECK.due("new fault 1", x.fault(1), -1);
    CHECK.due("new fault 2", x.fault(2), -1);
    CHECK.due("new fault -1", x.fault(-1), -1);
    noDesk("new ", x);
  }

  /** Every call that wants a DESK, a DAY, a FEAST or a TRAIN. */
  private static void noDesk(String at, DayWords x) {
    CHECK.due(at + "weekday", x.weekday(0), -2);
    CHECK.due(at + "feast", x.feast(0), -2);
    CHECK.due(at + "train", x.train(0, 0), -2);
    CHECK.due(at + "days", x.days(0), -2);
    CHECK.due(at + "runs", x.runs(0, 0), -2);
    CHECK.due(at + "many", x.many(0), -2);
    CHECK.due(at + "votes", x.votes(0, 0), -2);
    CHECK.due(at + "vote", x.vote(0), -2);
    CHECK.due(at + "strays", x.strays(0), -2);
    CHECK.due(at + "next", x.next(0, 0), -2);
    CHECK.due(at + "rest", x.rest(0), -2);
    CHECK.due(at + "words", x.words(0), -2);
    CHECK.due(at + "length", x.length(0), -2);
    CHECK.due(at + "sign", x.sign(0, 0), -2);
    CHECK.due(at + "ways", x.ways(0), -2);
    CHECK.due(at + "spans", x.spans(0), -2);
    CHECK.due(at + "span", x.span(0, 0, 0), -2);
    CHECK.due(at + "nots", x.nots(0, 0), -2);
    CHECK.due(at + "alsos", x.alsos(0, 0), -2);
    CHECK.due(at + "within", x.within(0, 0), -2);
    CHECK.due(at + "plain", x.plain(0), -2);
    CHECK.due(at + "other", x.other(0, 0), -2);
    CHECK.due(at + "shift", x.shift(0, 0), -2);
    CHECK.due(at + "least 0", x.least(0), -2);
    CHECK.due(at + "least 1", x.least(1), -2);
    for (int what = -1; what < 5; what++) {
      CHECK.due(at + "told " + what, x.told(what), -1);
    }
    CHECK.due(at + "worse", x.worse(), -1);
    CHECK.due(at + "shares", x.shares(0, 0), -2);
    CHECK.due(at + "same", x.same(0, 0), -2);
    CHECK.due(at + "join", x.join(0), -2);
    CHECK.due(at + "joint", x.joint(0), -2);
    CHECK.due(at + "twice", x.twice(0), -2);
    CHECK.due(at + "saved", x.saved(), -2);
    CHECK.due(at + "crowd", x.crowd(0), -2);
    CHECK.due(at + "full", x.full(), -2);
    CHECK.due(at + "flips", x.flips(0, 0), -2);
    CHECK.due(at + "merges", x.merges(), -2);
    CHECK.due(at + "undo", x.undo(), -2);
    CHECK.due(at + "anew", x.anew(), -2);
    Check.tape(x, "mo");
    CHECK.due(at + "tells", x.tells(), -2);
    CHECK.due(at + "the tape stays", x.count(6), 2);
    CHECK.due(at + "sets", x.sets(0), -2);
    CHECK.due(at + "the tape stays for sets", x.count(6), 2);
    CHECK.due(at + "end", x.end(0), 0);
  }

  private static void feedAndEnd() {
    DayWords x = new DayWords();
    for (int i = 1; i <= 30; i++) {
      CHECK.due("feed " + i, x.feed(-1, 0, 0, 0, 1), 20 * i);
    }
    CHECK.due("feed beyond 600", x.feed(0, 0, 0, 0, 0), -1);
    CHECK.due("tape stays full", x.count(6), 600);
    CHECK.due("end beyond", x.end(601), -1);
    CHECK.due("end below", x.end(-1), -1);
    CHECK.due("tape stays", x.count(6), 600);
    CHECK.due("end 600", x.end(600), 600);
    CHECK.due("end 581", x.end(581), 581);
    CHECK.due("feed beyond 600 from 581", x.feed(0, 0, 0, 0, 0), -1);
    CHECK.due("end 580", x.end(580), 580);
    CHECK.due("feed to 600", x.feed(0, 0, 0, 0, 0), 600);
    CHECK.due("end 0", x.end(0), 0);
    CHECK.due("end 1 of none", x.end(1), -1);
    // "desk days 7 first tu;" with its bytes at odd places: what came behind the end is gone.
    Check.tape(x, "desk da");
    Check.tape(x, "ys 7 first tu");
    Check.tape(x, ";");
    CHECK.due("bytes behind one another", x.desk(), 1);
    CHECK.due("weekday told so", x.count(1), 1);
    // The highest byte of each number first.
    DayWords y = new DayWords();
    y.feed(0x6465736b, 0x20646179, 0x73203320, 0x66697273, 0x74207375);
    y.feed(0x3b202020, 0x20202020, 0x20202020, 0x20202020, 0x0a0a0a0a);
    CHECK.due("highest byte first", y.desk(), 1);
    CHECK.due("su", y.weekday(0), 6);
  }

  private static void deskTold() {
    DayWords x = Check.made("desk days 10 first sa;train 0 at 0:never;feast ab 9 0 4;train 9 at 1439:daily;feast cdefghij 1;"
        + "train 3 at 7:also ab cdefghij;");
    CHECK.due("days", x.count(0), 10);
    CHECK.due("first", x.count(1), 5);
    CHECK.due("feasts", x.count(2), 2);
    CHECK.due("trains", x.count(3), 3);
    CHECK.due("acts", x.count(4), 0);
    CHECK.due("lines", x.count(5), 6);
    CHECK.due("bytes", x.count(6), 0);
    int[] weekdays = {5, 6, 0, 1, 2, 3, 4, 5, 6, 0};
    for (int day = 0; day < 10; day++) {
      CHECK.due("weekday " + day, x.weekday(day), weekdays[day]);
    }
    CHECK.due("weekday 10", x.weekday(10), -2);
    CHECK.due("weekday -1", x.weekday(-1), -2);
    CHECK.due("feast 0", x.feast(0), 0b1000010001);
    CHECK.due("feast 1", x.feast(1), 2);
    CHECK.due("feast 2", x.feast(2), -2);
    CHECK.due("feast -1", x.feast(-1), -2);
    CHECK.due("route 0", x.train(0, 0), 0);
    CHECK.due("minute 0", x.train(0, 1), 0);
    CHECK.due("route 1", x.train(1, 0), 9);
    CHECK.due("minute 1", x.train(1, 1), 1439);
    CHECK.due("route 2", x.train(2, 0), 3);
    CHECK.due("minute 2", x.train(2, 1), 7);
    CHECK.due("train 3", x.train(3, 0), -2);
    CHECK.due("train -1", x.train(-1, 0), -2);
    CHECK.due("train what 2", x.train(0, 2), -2);
    CHECK.due("train what -1", x.train(0, -1), -2);
    CHECK.due("days 2", x.days(2), 0b1000010011);
  }

  private static void deskReplaced() {
    DayWords x = Check.made("desk days 10 first sa;feast ab 9;train 1 at 1:mo;");
    CHECK.due("tells", Check.tells(x, "daily"), 10);
    x.flips(0, 3);
    CHECK.due("another desk", Check.desk(x, " \n desk days 2 first fr ;\ntrain 2 at 2 : daily ; "), 2);
    CHECK.due("its days", x.count(0), 2);
    CHECK.due("its feasts", x.count(2), 0);
    CHECK.due("its acts", x.count(4), 0);
    CHECK.due("no wording told", x.told(0), -1);
    CHECK.due("no wording told 2", x.told(2), -1);
    CHECK.due("undo", x.undo(), -5);
    CHECK.due("words of the new desk", x.words(0), 1);
    CHECK.due("days of the new desk", x.days(0), 3);
    CHECK.due("a feast of the old one", Check.tells(x, "also ab"), -4);
    // The same DAYS in another PERIOD have other WORDS.
    CHECK.due("words here", x.words(0), 1);
    CHECK.due("a longer period", Check.desk(x, "desk days 20 first fr;feast z 0 1;train 2 at 2:daily to 1;"), 3);
    CHECK.due("the same days", x.days(0), 3);
    CHECK.due("words there", x.words(0), 2);
    CHECK.due("text there", Check.text(x, 0), "also z");
    CHECK.due("another name", Check.desk(x, "desk days 20 first fr;feast zy 0 1;train 2 at 2:daily to 1;"), 3);
    CHECK.due("text by it", Check.text(x, 0), "also zy");
    CHECK.due("no desk", Check.desk(x, "  \n"), 0);
    CHECK.due("fault of no desk", x.fault(0), 0);
    CHECK.due("place of no desk", x.fault(1), -1);
    for (int what = 0; what < 7; what++) {
      CHECK.due("no desk count " + what, x.count(what), 0);
    }
    noDesk("no desk ", x);
  }

  private static void deskFaulty() {
    DayWords x = Check.made("desk days 10 first sa;feast ab 9;train 1 at 1:mo;");
    Check.tells(x, "daily");
    x.flips(0, 3);
    CHECK.due("faulty", Check.desk(x, "desk days 4 first mo;feast x 1;train 2 at 2:daily to 4;"), -4);
    CHECK.due("fault", x.fault(0), 2);
    CHECK.due("place", x.fault(1), 53);
    CHECK.due("fault what 2", x.fault(2), -1);
    CHECK.due("the tape is empty", x.count(6), 0);
    CHECK.due("days stay", x.count(0), 10);
    CHECK.due("weekday stays", x.weekday(0), 5);
    CHECK.due("feasts stay", x.feast(0), 512);
    CHECK.due("trains stay", x.days(0), 0b1000001100);
    CHECK.due("routes stay", x.train(0, 0), 1);
    CHECK.due("acts stay", x.count(4), 1);
    CHECK.due("lines stay", x.count(5), 3);
    CHECK.due("told stays", x.told(0), 1023);
    CHECK.due("words stay", x.words(0), 2);
    CHECK.due("undo", x.undo(), 0);
    CHECK.due("days back", x.days(0), 0b1000000100);
    CHECK.due("good again", Check.desk(x, "desk days 1 first mo;"), 1);
    CHECK.due("fault gone", x.fault(0), 0);
    CHECK.due("place gone", x.fault(1), -1);
  }

  private static void periods() {
    String[] names = {"mo", "tu", "we", "th", "fr", "sa", "su"};
    for (int n = 1; n <= 28; n++) {
      for (int w = 0; w < 7; w++) {
        DayWords x = Check.made("desk days " + n + " first " + names[w] + ";train 0 at 0:daily;train 0 at 0:" + names[(w + 3) % 7] + ";");
        CHECK.due("period", x.count(0), n);
        CHECK.due("first", x.count(1), w);
        CHECK.due("last weekday", x.weekday(n - 1), (w + n - 1) % 7);
        CHECK.due("all", x.days(0), (1 << n) - 1);
        CHECK.due("a weekday", x.days(1), 0b1000000100000010000001000 & (1 << n) - 1);
      }
    }
  }
}
