/** Promises 28 to 35: TESTS, FAULTS, FEWEST TESTS, whom to mend FIRST, BESIDE, and POSTS. */
public final class NightsTest {
  private static final Check check = new Check("NightsTest");

  private NightsTest() {
  }

  public static void main(String[] args) {
    promise28TestYear();
    promise29Fault();
    promise30Shows();
    promise31Cover();
    promise32First();
    promise32Ties();
    promise32Files();
    promise32Refusals();
    promise33Beside();
    promise34Stop();
    promise35Posts();
    promise35Hands();
    promise35ByTryingAll();
    check.finish();
  }

  private static void promise28TestYear() {
    TwoDigits x = new TwoDigits();
    check.due("year", x.testYear(1899), -2);
    check.due("year", x.testYear(2100), -2);
    check.due("none yet", x.count(8), 0);
    for (int i = 0; i < 8; i++) {
      check.due("test " + i, x.testYear(i == 0 ? 1900 : 2099), i);
    }
    check.due("a ninth", x.testYear(2000), -4);
    check.due("BAD ahead of FULL", x.testYear(2100), -2);
    check.due("eight", x.count(8), 8);
  }

  private static void promise29Fault() {
    TwoDigits x = Land.with("end");
    check.due("no such program", x.fault(1, 0, 3, 0), -1);
    check.due("no such program", x.fault(-1, 0, 2, 0), -1);
    check.due("no such field", x.fault(0, 6, 2, 101), -1);
    check.due("no such field", x.fault(0, -1, 2, 0), -1);
    check.due("digits", x.fault(0, 0, 3, 0), -2);
    check.due("pivot", x.fault(0, 0, 2, 101), -2);
    check.due("pivot", x.fault(0, 0, 2, -2), -2);
    check.due("none yet", x.count(9), 0);
    for (int i = 0; i < 8; i++) {
      check.due("fault " + i, x.fault(0, i % 6, 2 + i % 2 * 2, i == 0 ? 100 : -1), i);
    }
    check.due("a ninth", x.fault(0, 0, 2, 0), -4);
    check.due("BAD ahead of FULL", x.fault(0, 0, 5, 0), -2);
    check.due("eight", x.count(9), 8);
    check.due("nothing changed", x.field(0, 0, 1), -1);
  }

  private static void promise30Shows() {
    TwoDigits x = Land.with("now a;set b 50;if a<b 4;out a;out b", "now a;set b 50;if a<b 4;in c", "in a;out a");
    x.testYear(2000);
    x.testYear(1999);
    x.fault(0, 0, 2, 30);
    x.fault(0, 0, 4, -1);
    x.fault(1, 0, 4, -1);
    x.fault(2, 0, 4, -1);
    int[][] want = {{1, 1, 1, 0}, {0, 1, 0, 0}};
    for (int test = 0; test < 2; test++) {
      for (int fault = 0; fault < 4; fault++) {
        check.due("shows(" + test + ", " + fault + ")", x.shows(test, fault), want[test][fault]);
      }
    }
    x.fault(0, 1, 2, 60);
    x.fault(0, 1, 2, 0);
    x.testYear(2070);
    check.due("b means 2050: 70 is below", x.shows(2, 4), 1);
    check.due("and 2000", x.shows(0, 4), 0);
    check.due("b means 1950: 70 is below", x.shows(2, 5), 1);
    x.input(2, 0);
    check.due("an empty file", x.shows(0, 3), 0);
    x.does(0, 0, 0, 0);
    x.mend(0, 0, 0, 0, 4, -1);
    check.due("as mended", x.shows(0, 1), 0);
    check.due("as mended", x.shows(1, 1), 0);
    check.due("as mended", x.shows(1, 0), 1);
    x.run(0, 1999);
    check.due("inputs as they are", x.shows(0, 3), 1);
    check.due("no run but that was counted", x.count(11), 1);
    check.due("no such test", x.shows(3, 0), -1);
    check.due("no such test", x.shows(-1, 0), -1);
    check.due("no such fault", x.shows(0, 6), -1);
    check.due("no such fault", x.shows(0, -1), -1);
  }

  private static void promise31Cover() {
    TwoDigits x = Land.with("now a;leap a 3;end;out b", "now a;set b 99;if a=b 4;end;out b", "now a;set b 1;if a=b 4;end;out b");
    check.due("no such what", x.cover(2), -1);
    check.due("no such what", x.cover(-1), -1);
    check.due("nothing at all", x.cover(0), 0);
    check.due("nothing at all", x.cover(1), 0);
    x.testYear(2050);
    x.testYear(1999);
    x.testYear(2001);
    x.testYear(1901);
    check.due("no faults", x.cover(0), 0);
    x.fault(0, 1, 4, -1);
    check.due("a fault that no test shows", x.cover(0), 0);
    check.due("a fault that no test shows", x.cover(1), 0);
    x.fault(1, 0, 4, -1);
    check.due("1999", x.cover(0), 0b0010);
    check.due("one shown", x.cover(1), 1);
    x.fault(2, 0, 4, -1);
    check.due("1999, and of 2001, 1901 the least", x.cover(0), 0b0110);
    check.due("two shown", x.cover(1), 2);
    x.fault(2, 0, 2, 50);
    x.fault(1, 0, 2, 100);
    check.due("more faults, the same tests", x.cover(0), 0b0110);
    check.due("four shown", x.cover(1), 4);
    x.does(0, 0, 0, 0);
    TwoDigits y = Land.with("now a;set b 10;set c 20;if a<b 7;if a<c 7;end;end;out b");
    int[] years = {2005, 2015, 2055, 2009};
    for (int year : years) {
      y.testYear(year);
    }
    y.fault(0, 1, 2, 0);
    y.fault(0, 2, 2, 0);
    y.fault(0, 0, 2, 50);
    check.due("2055 shows two, 2005 the third", y.cover(0), 0b0101);
    check.due("three shown", y.cover(1), 3);
    check.due("not by 2015 alone", y.shows(1, 0), 0);
  }

  private static void promise32First() {
    TwoDigits x = Land.with("now a;out a", "now b;out b", "now c;out c", "set d 5;out d");
    int[] weights = {10, 6, 5, 50};
    int[] days = {5, 2, 3, 0};
    for (int i = 0; i < 4; i++) {
      x.set(i, 0, weights[i]);
      x.set(i, 1, days[i]);
    }
    first(x, 0b1111, 10, 2000, 0, 0b0111, 10);
    first(x, 0b1111, 9, 2000, 5, 0b0011, 7);
    first(x, 0b1111, 8, 2000, 5, 0b0011, 7);
    first(x, 0b1111, 6, 2000, 10, 0b0110, 5);
    first(x, 0b1111, 4, 2000, 15, 0b0010, 2);
    first(x, 0b1111, 1, 2000, 21, 0, 0);
    first(x, 0b1001, 999, 2000, 11, 0b0001, 5);
    first(x, 0b0000, 999, 2000, 21, 0, 0);
    check.due("nothing was run", x.count(11), 0);
    check.due("nothing was written", x.programOf(0, 4), 0);
    check.due("a night is as bad as it was", x.night(2000), 21);
  }

  private static void first(TwoDigits x, int told, int days, int year, int harm, int set, int takes) {
    String it = "first(" + Integer.toBinaryString(told) + ", " + days + ", " + year + ")";
    check.due("HARM of " + it, x.first(told, days, year, 0), harm);
    check.due("set of " + it, x.first(told, days, year, 1), set);
    check.due("DAYS of " + it, x.first(told, days, year, 2), takes);
  }

  private static void promise32Ties() {
    TwoDigits x = Land.with("now a;out a", "now b;out b", "now c;out c");
    x.set(0, 1, 3);
    x.set(1, 1, 2);
    x.set(2, 1, 2);
    first(x, 0b111, 3, 2000, 2, 0b010, 2);
    first(x, 0b101, 3, 2000, 2, 0b100, 2);
    first(x, 0b111, 4, 2000, 1, 0b110, 4);
    x.set(0, 1, 0);
    x.set(0, 0, 0);
    first(x, 0b001, 3, 2000, 2, 0, 0);
    TwoDigits y = Land.with("end", "end", "end", "end", "end", "end", "end", "end", "end", "end", "end", "now a;out a");
    first(y, 0b100000000111, 9, 2000, 0, 0b100000000000, 1);
    first(y, 0b011111110000, 9, 2000, 1, 0, 0);
  }

  /** Who is mended writes what its TWIN writes; one that reads it may be right by that, or wrong. */
  private static void promise32Files() {
    TwoDigits x = Land.with("now a;set b 50;if a<b 4;end;out b", "in c;out c", "in d");
    x.input(1, 0);
    x.input(2, 1);
    check.due("all three part", x.night(2000), 3);
    first(x, 0b111, 9, 2000, 0, 0b001, 1);
    first(x, 0b110, 9, 2000, 1, 0b010, 1);
    first(x, 0b100, 9, 2000, 2, 0b100, 1);
    TwoDigits y = Land.with("in a;if a=b 3;out b", "now c;set d 50;if c<d 4;out e;set f 0");
    y.input(0, 1);
    y.run(1, 2000);
    check.due("nothing in the file", y.programOf(1, 4), 0);
    check.due("a number in the twin file", y.programOf(1, 5), 1);
    first(y, 0b01, 9, 2000, 1, 0b01, 1);
    first(y, 0b10, 9, 2000, 0, 0b10, 1);
    y.does(1, 0, 0, 2);
    first(y, 0b01, 9, 2000, 1, 0b01, 1);
    y.set(1, 0, 9);
    check.due("one that is off is harm", y.first(0b01, 0, 2000, 0), 10);
    TwoDigits z = Land.with("now a;out a", "in b;out b");
    z.input(1, 0);
    z.set(0, 0, 9);
    z.run(0, 1999);
    z.run(0, 1999);
    z.does(0, 0, 0, 2);
    first(z, 0b10, 9, 1999, 9, 0, 0);
    check.due("its file is as it was", z.programOf(0, 4), 1);
    check.due("and the twin file", z.programOf(0, 5), 1);
    check.due("the night says the same", z.night(1999), 9);
  }

  private static void promise32Refusals() {
    TwoDigits x = Land.with("end", "end", "end", "end", "end", "end", "end", "end", "end");
    check.due("eight", x.first(0b011111111, 0, 2000, 0), 0);
    check.due("nine", x.first(0b111111111, 0, 2000, 0), -2);
    check.due("a bit of none", x.first(1 << 9, 0, 2000, 0), -1);
    check.due("a bit of none, ahead of the days", x.first(1 << 31, 1000, 2000, 0), -1);
    check.due("all bits", x.first(-1, 0, 2000, 0), -1);
    check.due("no such what", x.first(1, 0, 2000, 3), -1);
    check.due("no such what, ahead of the year", x.first(1, 0, 1899, -1), -1);
    check.due("days", x.first(1, 1000, 2000, 0), -2);
    check.due("days", x.first(1, -1, 2000, 0), -2);
    check.due("year", x.first(1, 0, 1899, 0), -2);
    check.due("year", x.first(1, 0, 2100, 0), -2);
    TwoDigits y = Land.with("end", "end", "end", "end", "end", "end", "end", "end", "end", "end", "end", "now a;out a");
    check.due("the last of twelve", y.first(1 << 11, 999, 2000, 0), 0);
    check.due("a thirteenth", y.first(1 << 12, 999, 2000, 0), -1);
  }

  private static void promise33Beside() {
    TwoDigits x = Land.with("now a;out a", "now a;leap a 3;end;out b", "now a;set b 50;if a<b 4;end;out b");
    x.set(0, 0, 10);
    x.set(1, 0, 20);
    x.set(2, 0, 40);
    for (int p = 0; p < 3; p++) {
      x.does(p, 0, 0, 0);
    }
    x.mend(0, 0, 0, 0, 4, -1);
    x.mend(2, 0, 0, 0, 2, 30);
    x.mend(2, 0, 0, 1, 2, 30);
    x.mendRule(1, 0, 0, 2);
    x.mend(1, 0, 0, 0, 2, 50);
    check.due("beside in 2000", x.beside(2000), 50);
    check.due("beside in 1999", x.beside(1999), 10);
    check.due("beside in 1900", x.beside(1900), 70);
    x.does(1, 0, 0, 2);
    check.due("off matters not: 1900", x.beside(1900), 70);
    check.due("off matters not: 1999", x.beside(1999), 10);
    check.due("nothing was run", x.count(11), 0);
    check.due("nothing changed", x.field(0, 0, 0), 4);
    check.due("nothing changed", x.programOf(1, 2), 2);
    check.due("the night itself", x.night(1999), 20);
    check.due("year", x.beside(1899), -2);
    check.due("year", x.beside(2100), -2);
    TwoDigits y = Land.with("in a;out a", "now b;out b");
    y.input(0, 1);
    y.does(1, 0, 0, 0);
    y.mend(1, 0, 0, 1, 4, -1);
    check.due("two stop alike", y.beside(2000), 1);
    y.run(1, 2000);
    check.due("the file as it is now: four digits", y.beside(2000), 2);
    y.does(0, 0, 0, 0);
    y.mend(0, 0, 0, 0, 4, -1);
    check.due("the night itself", y.night(2000), 0);
    check.due("beside, with two digits", y.beside(2000), 2);
  }

  private static void promise34Stop() {
    TwoDigits x = new TwoDigits();
    int[][] bad = {
      {-1, 0, 1, 0}, {100, 0, 1, 0}, {0, -1, 1, 0}, {0, 900, 1, 0}, {0, 0, 0, 0}, {0, 0, 100, 0}, {0, 0, 1, -1},
      {0, 0, 1, 100}};
    for (int[] b : bad) {
      check.due("stop(" + b[0] + ", " + b[1] + ", " + b[2] + ", " + b[3] + ")", x.stop(b[0], b[1], b[2], b[3]), -2);
    }
    check.due("none yet", x.count(13), 0);
    check.due("the last of all", x.stop(99, 899, 99, 99), 0);
    check.due("the first of all", x.stop(0, 0, 1, 0), 1);
    for (int i = 2; i < 8; i++) {
      check.due("stop " + i, x.stop(1, 1, 1, 1), i);
    }
    check.due("a ninth", x.stop(1, 1, 1, 1), -4);
    check.due("BAD ahead of FULL", x.stop(1, 1, 0, 1), -2);
    check.due("eight", x.count(13), 8);
  }

  private static void promise35Posts() {
    TwoDigits x = new TwoDigits();
    check.due("nothing to meet", x.posts(1, 0), 0);
    check.due("nothing to meet", x.posts(1, 1), 0);
    check.due("nothing to meet", x.posts(1, 2), 0);
    x.stop(10, 9, 1, 50);
    check.due("too far", x.posts(3, 1), 0);
    x.stop(10, 10, 5, 7);
    check.due("just in time", x.posts(1, 1), 0b10);
    x.stop(12, 16, 1, 9);
    check.due("not both by one", x.posts(1, 1), 0b100);
    check.due("its weight", x.posts(1, 0), 9);
    check.due("both by two", x.posts(2, 1), 0b110);
    x.stop(12, 17, 1, 2);
    check.due("just in time, when that is over", x.posts(1, 1), 0b1100);
    check.due("the weight of both", x.posts(1, 0), 11);
    x.stop(50, 0, 1, 99);
    x.stop(0, 0, 1, 0);
    check.due("no weight is not met", x.posts(3, 1), 0b1110);
    check.due("the weight of three", x.posts(3, 0), 18);
    check.due("the first hand", x.posts(3, 2), 0b1100);
    check.due("the second", x.posts(3, 3), 0b0010);
    check.due("no such what", x.posts(3, 5), -1);
    check.due("no such what, ahead of the hands", x.posts(0, -1), -1);
    check.due("no such what, ahead of the hands", x.posts(0, 5), -1);
    check.due("hands", x.posts(0, 0), -2);
    check.due("hands", x.posts(4, 0), -2);
    check.due("hands, ahead of no such hand", x.posts(0, 4), -2);
    check.due("no such hand", x.posts(1, 3), -1);
    check.due("no such hand", x.posts(2, 4), -1);
    check.due("nothing is left for the third", x.posts(3, 4), 0);
  }

  private static void promise35Hands() {
    TwoDigits x = new TwoDigits();
    x.stop(0, 30, 10, 5);
    x.stop(0, 10, 10, 5);
    x.stop(0, 20, 10, 5);
    x.stop(5, 20, 10, 5);
    check.due("by their minutes, not by numbers", x.posts(1, 1), 0b0111);
    check.due("all by two", x.posts(2, 1), 0b1111);
    check.due("the greatest set that leaves what the other can meet", x.posts(2, 2), 0b1000);
    check.due("the rest", x.posts(2, 3), 0b0111);
    check.due("with three all the same", x.posts(3, 2), 0b1000);
    check.due("the second", x.posts(3, 3), 0b0111);
    check.due("nothing for the third", x.posts(3, 4), 0);
    TwoDigits y = new TwoDigits();
    y.stop(0, 5, 1, 1);
    y.stop(0, 5, 1, 1);
    y.stop(0, 5, 1, 1);
    y.stop(0, 5, 1, 1);
    check.due("of like ones the least", y.posts(1, 1), 0b0001);
    check.due("two", y.posts(2, 1), 0b0011);
    check.due("the first hand the greatest", y.posts(2, 2), 0b0010);
    check.due("the second", y.posts(2, 3), 0b0001);
    check.due("three", y.posts(3, 1), 0b0111);
    check.due("the first hand", y.posts(3, 2), 0b0100);
    check.due("the second", y.posts(3, 3), 0b0010);
    check.due("the third", y.posts(3, 4), 0b0001);
    TwoDigits z = new TwoDigits();
    z.stop(20, 20, 1, 3);
    z.stop(10, 31, 5, 3);
    z.stop(10, 32, 1, 3);
    check.due("back again in time; of like weight the least", z.posts(1, 1), 0b011);
    check.due("by one hand", z.posts(1, 2), 0b011);
    z.stop(0, 45, 1, 1);
    check.due("not from 36 to 45, but from 33", z.posts(1, 1), 0b1101);
  }

  /** Some STOPS by a rule, beside the Model that tries each way to share them. */
  private static void promise35ByTryingAll() {
    int v = 7;
    for (int land = 0; land < 60; land++) {
      TwoDigits x = new TwoDigits();
      Model y = new Model();
      for (int i = 0; i < 8; i++) {
        v = v * 1103515245 + 12345;
        int place = (v >>> 16) % 20;
        int minute = place / 2 + (v >>> 8) % 60;
        int lasts = 1 + (v >>> 4) % 9;
        int weight = (v >>> 20) % 5;
        check.due("stop", x.stop(place, minute, lasts, weight), y.stop(place, minute, lasts, weight));
        for (int hands = 1; hands <= 3 && i > 5; hands++) {
          for (int what = 0; what <= 4; what++) {
            check.due("posts " + land, x.posts(hands, what), y.posts(hands, what));
          }
        }
      }
    }
  }
}
