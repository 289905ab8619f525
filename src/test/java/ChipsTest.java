/** Promises 23 to 27: CHIPS and what FITS, papers and what an office KNEW. */
public final class ChipsTest {
  private static final Check check = new Check("ChipsTest");

  private ChipsTest() {
  }

  public static void main(String[] args) {
    promise23Chip();
    promise24Ask();
    promise24Full();
    promise25Fit();
    promise25ByTryingAll();
    promise26Sign();
    promise27Knew();
    check.finish();
  }

  private static void promise23Chip() {
    TwoDigits x = new TwoDigits();
    check.due("pivot", x.chip(-1, 0), -2);
    check.due("pivot", x.chip(101, 0), -2);
    check.due("rule", x.chip(0, -1), -2);
    check.due("rule", x.chip(0, 3), -2);
    check.due("none was made", x.count(1), 0);
    for (int i = 0; i < 6; i++) {
      check.due("chip " + i, x.chip(i == 0 ? 100 : 0, i % 3), i);
    }
    check.due("a seventh", x.chip(0, 0), -4);
    check.due("BAD ahead of FULL", x.chip(101, 0), -2);
    check.due("six", x.count(1), 6);
  }

  private static void promise24Ask() {
    TwoDigits x = new TwoDigits();
    x.chip(30, 0);
    x.chip(30, 1);
    x.chip(30, 2);
    x.chip(0, 0);
    x.chip(100, 2);
    asks(x, 2000, 4001, 4000, 4001, 3801, 4001);
    asks(x, 1900, 4001, 4000, 4001, 3801, 4001);
    asks(x, 1929, 4058, 4058, 4058, 3858, 4058);
    asks(x, 2030, 3860, 3860, 3860, 3860, 4060);
    asks(x, 2004, 4009, 4009, 4009, 3809, 4009);
    asks(x, 1999, 3998, 3998, 3998, 3998, 4198);
    asks(x, 2096, 3993, 3993, 3993, 3993, 4193);
    check.due("no such chip", x.ask(5, 2000), -1);
    check.due("no such chip, ahead of the year", x.ask(-1, 1899), -1);
    check.due("year", x.ask(0, 1899), -2);
    check.due("year", x.ask(0, 2100), -2);
  }

  private static void asks(TwoDigits x, int year, int... answers) {
    for (int chip = 0; chip < answers.length; chip++) {
      check.due("ask(" + chip + ", " + year + ")", x.ask(chip, year), answers[chip]);
    }
  }

  private static void promise24Full() {
    TwoDigits x = new TwoDigits();
    x.chip(50, 0);
    x.chip(50, 0);
    for (int i = 0; i < 30; i++) {
      check.due("ask " + i, x.ask(0, 1999), 3998);
      check.due("a refused one does not count", x.ask(0, 2100), -2);
    }
    check.due("a thirty-first", x.ask(0, 1950), -4);
    check.due("BAD ahead of FULL", x.ask(0, 1899), -2);
    check.due("the refused one tells nothing", x.fit(0, 0), 300);
    check.due("the other", x.ask(1, 1950), 3900);
  }

  private static void promise25Fit() {
    TwoDigits x = new TwoDigits();
    x.chip(40, 2);
    check.due("all", x.fit(0, 0), 303);
    check.due("the least", x.fit(0, 1), 0);
    check.due("the year", x.fit(0, 2), 1949);
    check.due("alike", x.fit(0, 3), 153);
    x.ask(0, 1950);
    check.due("pivots 0 to 50", x.fit(0, 0), 153);
    check.due("the year: 25 pivots to 24, 26 above", x.fit(0, 2), 1924);
    check.due("alike", x.fit(0, 3), 78);
    x.ask(0, 2030);
    check.due("pivots 31 to 50", x.fit(0, 0), 60);
    check.due("the least", x.fit(0, 1), 93);
    check.due("the year", x.fit(0, 2), 1940);
    check.due("alike", x.fit(0, 3), 30);
    x.ask(0, 1900);
    check.due("rules 0 and 2", x.fit(0, 0), 40);
    x.ask(0, 1939);
    x.ask(0, 1940);
    check.due("the pivot is known, not the rule", x.fit(0, 0), 2);
    check.due("the least", x.fit(0, 1), 120);
    check.due("no year parts them: the least", x.fit(0, 2), 1900);
    check.due("alike", x.fit(0, 3), 2);
    check.due("no such what", x.fit(0, 4), -1);
    check.due("no such what", x.fit(0, -1), -1);
    check.due("no such chip", x.fit(1, 0), -1);
    check.due("no such chip", x.fit(-1, 0), -1);
    x.chip(0, 1);
    x.ask(1, 1900);
    check.due("pivot 0: 1900, rules 1, 2", x.fit(1, 0), 2);
    check.due("the least", x.fit(1, 1), 1);
    TwoDigits y = new TwoDigits();
    y.chip(0, 2);
    y.ask(0, 1901);
    check.due("pivots 0, 1", y.fit(0, 0), 6);
    check.due("1900 or 2000", y.fit(0, 2), 1900);
    check.due("of three rules two alike", y.fit(0, 3), 2);
    y.chip(1, 1);
    y.ask(1, 2000);
    y.ask(1, 2002);
    check.due("pivots 1, 2", y.fit(1, 0), 2);
    check.due("1901 or 2001", y.fit(1, 2), 1901);
    check.due("one alike", y.fit(1, 3), 1);
    x.chip(100, 1);
    x.ask(2, 1900);
    check.due("2000 does not leap: rule 1", x.fit(2, 0), 100);
    x.ask(2, 2099);
    check.due("pivot 100", x.fit(2, 0), 1);
    check.due("it", x.fit(2, 1), 301);
  }

  /** Each CHIP that can be, asked a few YEARS, beside the Model that tries all 303. */
  private static void promise25ByTryingAll() {
    for (int c = 0; c < 303; c += 5) {
      TwoDigits x = new TwoDigits();
      Model y = new Model();
      x.chip(c / 3, c % 3);
      y.chip(c / 3, c % 3);
      for (int i = 0; i < 6; i++) {
        for (int what = 0; what < 4; what++) {
          check.due("fit of " + c + ", " + what, x.fit(0, what), y.fit(0, what));
        }
        int year = i == 3 ? 2000 : x.fit(0, 2);
        check.due("ask of " + c, x.ask(0, year), y.ask(0, year));
      }
    }
  }

  private static void promise26Sign() {
    TwoDigits x = Land.with("end", "end");
    check.due("no such program", x.sign(2, 1, true, 0, 1), -1);
    check.due("no such program", x.sign(-1, 1, true, 0, 0), -1);
    check.due("no such office", x.sign(0, 1, true, 6, 0), -1);
    check.due("no such office", x.sign(0, 1000, true, -1, 1), -1);
    check.due("known ahead", x.sign(0, 1, true, 0, 0), -2);
    check.due("day", x.sign(0, 1000, true, 0, 1000), -2);
    check.due("day", x.sign(0, -1, true, 0, 1), -2);
    check.due("known", x.sign(0, 1, true, 0, 1000), -2);
    check.due("none yet", x.count(7), 0);
    for (int i = 0; i < 60; i++) {
      check.due("paper " + i, x.sign(i % 2, i, true, i % 6, i == 59 ? 999 : i), i);
    }
    check.due("one more", x.sign(0, 1, true, 0, 1), -4);
    check.due("BAD ahead of FULL", x.sign(0, 1, true, 0, 0), -2);
    check.due("sixty", x.count(7), 60);
    check.due("the last", x.knew(1, 5, 999), 1);
  }

  private static void promise27Knew() {
    TwoDigits x = Land.with("end", "end");
    check.due("no paper", x.knew(0, 0, 999), -1);
    x.sign(0, 10, true, 0, 20);
    check.due("not yet", x.knew(0, 0, 19), -1);
    check.due("known", x.knew(0, 0, 20), 1);
    check.due("still", x.knew(0, 0, 999), 1);
    check.due("not in another office", x.knew(0, 1, 999), -1);
    check.due("not of another program", x.knew(1, 0, 999), -1);
    x.sign(0, 5, false, 0, 30);
    check.due("an earlier paper, known later", x.knew(0, 0, 30), 1);
    x.sign(0, 12, false, 0, 25);
    check.due("not yet", x.knew(0, 0, 24), 1);
    check.due("a later one", x.knew(0, 0, 25), 0);
    x.sign(0, 12, true, 0, 12);
    check.due("of like days the last", x.knew(0, 0, 25), 1);
    check.due("the last alone", x.knew(0, 0, 12), 1);
    check.due("none", x.knew(0, 0, 11), -1);
    x.sign(0, 0, false, 5, 0);
    check.due("on day 0", x.knew(0, 5, 0), 0);
    check.due("no such program", x.knew(2, 0, 5), -5);
    check.due("no such program", x.knew(-1, 0, 5), -5);
    check.due("no such office", x.knew(0, 6, 5), -5);
    check.due("no such office", x.knew(0, -1, 5), -5);
    check.due("no such day", x.knew(0, 0, 1000), -5);
    check.due("no such day", x.knew(0, 0, -1), -5);
  }
}
