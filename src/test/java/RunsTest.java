/** Promises 9 to 16: RUNS and TWINS, where they PART, leaps and windows, NIGHTS, reach and CROSS. */
public final class RunsTest {
  private static final Check check = new Check("RunsTest");

  private RunsTest() {
  }

  public static void main(String[] args) {
    promise9Run();
    promise9Keeps();
    promise9Means();
    promise9Leaps();
    promise9Ends();
    promise9Loops();
    promise9Inputs();
    promise10File();
    promise11Done();
    promise11Parts();
    promise12Leaps();
    promise13Meant();
    promise14Night();
    promise14Off();
    promise14Order();
    promise15Reach();
    promise16Cross();
    check.finish();
  }

  /** A PROGRAM that is read and so can be mended. */
  private static TwoDigits read(String text) {
    TwoDigits x = Land.with(text);
    x.does(0, 0, 0, 0);
    return x;
  }

  private static void promise9Run() {
    TwoDigits x = Land.with("now a;out a");
    check.due("no such program", x.run(1, 2000), -1);
    check.due("no such program, ahead of the year", x.run(-1, 1899), -1);
    check.due("too early", x.run(0, 1899), -2);
    check.due("too late", x.run(0, 2100), -2);
    check.due("none was made", x.programOf(0, 6), -1);
    check.due("none was counted", x.count(11), 0);
    check.due("1900", x.run(0, 1900), 0);
    check.due("cut", x.file(0, 0, false), 0);
    check.due("whole", x.file(0, 0, true), 1900);
    check.due("2099", x.run(0, 2099), 0);
    check.due("cut", x.file(0, 0, false), 99);
    check.due("whole", x.file(0, 0, true), 2099);
    check.due("the file is emptied", x.programOf(0, 4), 1);
    check.due("the twin file, too", x.programOf(0, 5), 1);
    check.due("two were counted", x.count(11), 2);
    TwoDigits y = Land.with("out a;set a 5;out a");
    y.run(0, 2000);
    y.run(0, 2000);
    check.due("fields are 0 at first", y.file(0, 0, false), 0);
    check.due("those of the twin, too", y.file(0, 0, true), 0);
  }

  private static void promise9Keeps() {
    String text = "set a 1234;set b 99;add b a;set c 5;sub c a;mov d a;out a;out b;out c;out d;now e;out e";
    TwoDigits x = read(text);
    x.run(0, 1987);
    int[] two = {34, 33, 71, 34, 87};
    int[] whole = {1234, 1333, -1229, 1234, 1987};
    for (int i = 0; i < 5; i++) {
      check.due("two digits of " + i, x.file(0, i, false), two[i]);
      check.due("all of " + i, x.file(0, i, true), whole[i]);
    }
    for (int field = 0; field < 5; field++) {
      x.mend(0, 0, 0, field, 4, -1);
    }
    x.run(0, 1987);
    int[] four = {1234, 1333, 8771, 1234, 1987};
    for (int i = 0; i < 5; i++) {
      check.due("four digits of " + i, x.file(0, i, false), four[i]);
    }
    TwoDigits y = read("set a 100;mov b a;out b;set c 9999;set d 1;add c d;out c;sub e d;out e");
    y.mend(0, 0, 0, 0, 4, -1);
    y.run(0, 2000);
    check.due("a hundred, moved", y.file(0, 0, false), 0);
    check.due("all figures over", y.file(0, 1, false), 0);
    check.due("one below 0", y.file(0, 2, false), 99);
    check.due("one below 0 in the twin", y.file(0, 2, true), -1);
    y.mend(0, 0, 0, 4, 4, -1);
    y.mend(0, 0, 0, 2, 4, -1);
    y.run(0, 2000);
    check.due("all four figures over", y.file(0, 1, false), 0);
    check.due("the twin keeps five", y.file(0, 1, true), 10000);
    check.due("one below 0 with four", y.file(0, 2, false), 9999);
    TwoDigits z = Land.with("set a 9999;set c 19;set f 1;add a a;if d=c 7;add d f;go 3;out a");
    z.run(0, 2000);
    check.due("the twin wraps", z.programOf(0, 7), 0);
    int number = 9999;
    for (int i = 0; i < 20; i++) {
      number += number;
    }
    check.due("as 32 bits do", z.file(0, 0, true), number);
  }

  /** if asks what is MEANT: windows by PIVOTS, only with 2 DIGITS. */
  private static void promise9Means() {
    asked("set a 30;set b 29;if a<b 4;end;out a", 30, -1, 1);
    asked("set a 29;set b 30;if a<b 4;end;out a", 30, -1, 0);
    asked("set a 29;set b 28;if a<b 4;end;out a", 30, -1, 0);
    asked("set a 0;set b 99;if a<b 4;end;out a", 0, -1, 1);
    asked("set a 99;set b 0;if a<b 4;end;out a", 100, -1, 0);
    asked("set a 99;set b 98;if a=b 4;end;out a", 50, 50, 0);
    asked("set a 99;set b 99;if a=b 4;end;out a", 50, 50, 1);
    asked("set a 20;set b 20;if a=b 4;end;out a", 50, 10, 0);
    asked("set a 20;set b 20;if a<b 4;end;out a", 10, 50, 1);
    TwoDigits x = read("set a 30;set b 1929;if b<a 4;end;out a");
    x.mend(0, 0, 0, 0, 2, 30);
    x.mend(0, 0, 0, 1, 4, 100);
    x.run(0, 2000);
    check.due("1930 is above a 1929 of four figures", x.programOf(0, 4), 1);
    x.mend(0, 0, 0, 0, 4, 30);
    x.run(0, 2000);
    check.due("30 of four figures is not", x.programOf(0, 4), 0);
    check.due("nor in the twin", x.programOf(0, 5), 0);
    TwoDigits y = read("set a 5;set b 1905;if a=b 4;end;out a");
    y.mend(0, 0, 0, 0, 2, 0);
    y.mend(0, 0, 0, 1, 4, -1);
    y.run(0, 2000);
    check.due("5 means 1905", y.programOf(0, 4), 1);
    check.due("not to the twin", y.programOf(0, 5), 0);
  }

  private static void asked(String text, int pivotOfA, int pivotOfB, int writes) {
    TwoDigits x = read(text);
    x.mend(0, 0, 0, 0, 2, pivotOfA);
    x.mend(0, 0, 0, 1, 2, pivotOfB);
    if (pivotOfB < 0) {
      x.mend(0, 0, 0, 1, 2, pivotOfA);
    }
    x.run(0, 2000);
    check.due(text + " with " + pivotOfA + ", " + pivotOfB, x.programOf(0, 4), writes);
  }

  private static void promise9Leaps() {
    leaping("now a;leap a 3;end;out a", 1996, 0, 2, -1, 1, 1);
    leaping("now a;leap a 3;end;out a", 1997, 0, 2, -1, 0, 0);
    leaping("now a;leap a 3;end;out a", 2000, 0, 2, -1, 1, 1);
    leaping("now a;leap a 3;end;out a", 2000, 1, 2, -1, 0, 1);
    leaping("now a;leap a 3;end;out a", 2000, 2, 2, -1, 0, 1);
    leaping("now a;leap a 3;end;out a", 2000, 2, 2, 50, 1, 1);
    leaping("now a;leap a 3;end;out a", 2000, 1, 2, 50, 0, 1);
    leaping("now a;leap a 3;end;out a", 2000, 2, 2, 0, 0, 1);
    leaping("now a;leap a 3;end;out a", 2000, 2, 4, -1, 1, 1);
    leaping("now a;leap a 3;end;out a", 2000, 1, 4, -1, 0, 1);
    leaping("now a;leap a 3;end;out a", 1900, 0, 4, -1, 1, 0);
    leaping("now a;leap a 3;end;out a", 1900, 0, 2, -1, 1, 0);
    leaping("set a 99;leap a 3;end;out a", 2000, 2, 4, -1, 0, 0);
    leaping("set a 100;leap a 3;end;out a", 2000, 0, 4, -1, 1, 0);
    leaping("set a 100;leap a 3;end;out a", 2000, 1, 4, -1, 0, 0);
    leaping("set a 100;leap a 3;end;out a", 2000, 2, 4, -1, 0, 0);
    leaping("set a 400;leap a 3;end;out a", 2000, 2, 4, 3, 1, 1);
    leaping("set a 0;leap a 3;end;out a", 2000, 2, 4, -1, 0, 1);
    leaping("set a 0;leap a 3;end;out a", 2000, 0, 4, -1, 1, 1);
    leaping("set b 4;sub a b;leap a 4;end;out a", 2000, 2, 4, -1, 1, 1);
    leaping("set b 3;sub a b;leap a 4;end;out a", 2000, 2, 4, -1, 0, 0);
  }

  private static void leaping(String text, int year, int rule, int digits, int pivot, int ours, int twins) {
    TwoDigits x = read(text);
    x.mend(0, 0, 0, 0, digits, pivot);
    x.mendRule(0, 0, 0, rule);
    x.run(0, year);
    String it = text + " in " + year + " by " + rule + ", " + digits + ", " + pivot;
    check.due(it, x.programOf(0, 4), ours);
    check.due("twin of " + it, x.programOf(0, 5), twins);
  }

  private static void promise9Ends() {
    check.due("end", Land.with("end;go 1").run(0, 2000), 0);
    check.due("behind the last line", Land.with("set a 1").run(0, 2000), 0);
    check.due("to no line", Land.with("go 1").run(0, 2000), 0);
    check.due("to no line", Land.with("go 99;go 0").run(0, 2000), 0);
    check.due("by if to no line", Land.with("if a=a 50;go 0").run(0, 2000), 0);
    check.due("in without a number", Land.with("in a").run(0, 2000), 1);
    TwoDigits x = Land.with("in a;out a;in a;out a");
    Land.shelf(x, 0, 3);
    check.due("in without one left", x.run(0, 2000), 1);
    check.due("what was written stays", x.file(0, 0, false), 3);
    check.due("one number", x.programOf(0, 4), 1);
    TwoDigits y = Land.with("out a;go 0");
    check.due("a thirteenth out", y.run(0, 2000), 1);
    check.due("twelve numbers", y.programOf(0, 4), 12);
    check.due("twelve numbers of the twin", y.programOf(0, 5), 12);
    check.due("25 lines, with the one that stopped", y.done(0, 0), 25);
    TwoDigits z = Land.with("out a;out a;out a;out a;out a;out a;out a;out a;out a;out a;out a;out a");
    check.due("a twelfth out", z.run(0, 2000), 0);
    check.due("twelve numbers", z.programOf(0, 4), 12);
  }

  /** A loop of three LINES and some ahead of it, that ends with a LINE told, or at 150. */
  private static void promise9Loops() {
    TwoDigits x = Land.with("go 0");
    check.due("loops", x.run(0, 2000), 2);
    check.due("150 lines", x.done(0, 0), 150);
    check.due("150 lines of the twin", x.done(0, 1), 150);
    TwoDigits y = Land.with("out a;go 1");
    check.due("loops", y.run(0, 2000), 2);
    check.due("with a number", y.programOf(0, 4), 1);
    counted("set b 1;set c 49;add a b;if a=c 5;go 2;end", 149, 0);
    counted("set b 1;set c 49;add a b;if a=c 6;go 2;end;set d 1;end", 150, 0);
    counted("set b 1;set c 49;add a b;if a=c 6;go 2;end;set d 1;set d 2;end", 150, 2);
    counted("set b 1;set c 49;add a b;if a=c 6;go 2;end;set d 1;in d", 150, 1);
    counted("set b 1;set c 50;add a b;if a=c 5;go 2;end", 150, 2);
    counted("set b 1;set c 48;set d 1;mov e d;add a b;if a=c 7;go 4;mov e d;mov e d;end", 150, 0);
  }

  private static void counted(String text, int lines, int end) {
    TwoDigits x = Land.with(text);
    check.due("end of " + text, x.run(0, 2000), end);
    check.due("lines of " + text, x.done(0, 0), lines);
    check.due("end of the twin of " + text, x.programOf(0, 7), end);
    check.due("lines of the twin of " + text, x.done(0, 1), lines);
  }

  private static void promise9Inputs() {
    TwoDigits x = Land.with("now a;out a;set a 7;out a", "in b;out b;in b;out b", "in c;out c");
    x.input(1, 0);
    x.input(2, 1);
    check.due("nothing is written yet", x.run(1, 2000), 1);
    x.run(0, 1999);
    check.due("read as it is", x.run(1, 2050), 0);
    check.due("what was written", x.file(1, 0, false), 99);
    check.due("the twin reads the twin file", x.file(1, 0, true), 1999);
    check.due("the second", x.file(1, 1, false), 7);
    x.run(0, 2000);
    x.run(2, 2000);
    check.due("as it was written last", x.file(2, 0, false), 99);
    check.due("as its twin wrote", x.file(2, 0, true), 1999);
    check.due("each run reads from the first on", x.run(1, 2050), 0);
    check.due("anew", x.file(1, 0, true), 2000);
  }

  private static void promise10File() {
    TwoDigits x = Land.with("now a;set b 150;out a;out b;if a<b 6;out a");
    x.run(0, 2005);
    check.due("0", x.file(0, 0, false), 5);
    check.due("1", x.file(0, 1, false), 50);
    check.due("none", x.file(0, 2, false), -5);
    check.due("twin 0", x.file(0, 0, true), 2005);
    check.due("twin 1", x.file(0, 1, true), 150);
    check.due("twin 2", x.file(0, 2, true), 2005);
    check.due("twin none", x.file(0, 3, true), -5);
    x.run(0, 2060);
    check.due("2 in another year", x.file(0, 2, false), 60);
    check.due("below 0", x.file(0, -1, false), -5);
    check.due("below 0", x.file(0, -1, true), -5);
    check.due("far beyond", x.file(0, Integer.MAX_VALUE, true), -5);
    check.due("no such program", x.file(1, 0, false), -5);
    check.due("no such program", x.file(-1, 0, true), -5);
  }

  private static void promise11Done() {
    TwoDigits x = Land.with("now a;set b 50;if b<a 4;set c 1;out a");
    for (int what = 0; what <= 2; what++) {
      check.due("none was made", x.done(0, what), -1);
    }
    check.due("no such what", x.done(0, 3), -5);
    check.due("no such what", x.done(0, -1), -5);
    check.due("no such program", x.done(1, 0), -5);
    check.due("no such program", x.done(-1, 0), -5);
    x.run(0, 2000);
    check.due("lines", x.done(0, 0), 5);
    check.due("of the twin", x.done(0, 1), 4);
    check.due("they part", x.done(0, 2), 2);
    TwoDigits y = Land.with("end");
    y.run(0, 2000);
    check.due("end is a line done", y.done(0, 0), 1);
    y.does(0, 0, 0, 2);
    check.due("off: none is last made", y.done(0, 0), -1);
    TwoDigits z = Land.with("in a");
    z.run(0, 2000);
    check.due("the line that stopped was done", z.done(0, 0), 1);
  }

  private static void parts(String text, int year, int line) {
    TwoDigits x = Land.with(text);
    Land.shelf(x, 0, 1950, 5);
    x.run(0, year);
    check.due("line at which they part of " + text + " in " + year, x.done(0, 2), line);
  }

  private static void promise11Parts() {
    parts("now a;out b;end", 2000, -1);
    parts("now a;out b;out a;out a", 1999, 2);
    parts("set a 50;out a;set a 150;out a", 1999, 3);
    parts("now a;now b;if a=b 4;out b;set c 3", 2000, -1);
    parts("now a;set b 1;if a<b 3;set c 1", 2000, -1);
    parts("now a;set b 1;if a<b 4;set c 1;end", 2000, 2);
    parts("now a;set b 1;if a<b 50;set c 1", 2000, 2);
    parts("now a;set b 1;if a<b 50", 2000, -1);
    parts("now a;set b 1;if a<b 3", 2000, -1);
    parts("now a;set b 1950;if a<b 9;if a=b 6;set c 1;end;out c", 1950, -1);
    parts("now a;leap a 3;end;out a", 1900, 1);
    parts("now a;leap a 3;end;out a", 1904, 3);
    parts("in a;in b;in c", 2000, -1);
    parts("now a;set b 10;out b;set c 1;sub b c;if a<b 2;end", 2000, 5);
    TwoDigits x = Land.with("now a;set b 1;out b;if a<b 5;out b", "in a;in a;out b");
    x.input(1, 0);
    x.run(0, 2000);
    check.due("one number", x.programOf(0, 4), 1);
    check.due("two of the twin", x.programOf(0, 5), 2);
    check.due("stopped", x.run(1, 2000), 1);
    check.due("its twin not", x.programOf(1, 7), 0);
    check.due("at the in they part", x.done(1, 2), 1);
    TwoDigits y = Land.with("now a;set b 1;out b;if a<b 5;out b", "in a;in a");
    y.input(1, 0);
    y.run(0, 2000);
    y.run(1, 2000);
    check.due("one ends otherwise with the last line", y.done(1, 2), 1);
    TwoDigits z = Land.with("out a;go 0");
    z.run(0, 2000);
    check.due("both stop at a full file", z.done(0, 2), -1);
  }

  private static void promise12Leaps() {
    int[][] want = {
      {1900, 1, 0, 0}, {1901, 0, 0, 0}, {1904, 1, 1, 1}, {1998, 0, 0, 0}, {2000, 1, 0, 1}, {2002, 0, 0, 0},
      {2096, 1, 1, 1}, {2099, 0, 0, 0}, {1950, 0, 0, 0}};
    for (int[] row : want) {
      for (int rule = 0; rule < 3; rule++) {
        check.due("leaps(" + row[0] + ", " + rule + ")", TwoDigitsLeaps.of(row[0], rule), row[1 + rule]);
      }
    }
    TwoDigits x = new TwoDigits();
    check.due("too early", x.leaps(1899, 0), -1);
    check.due("too late", x.leaps(2100, 0), -1);
    check.due("no such rule", x.leaps(2000, 3), -1);
    check.due("no such rule", x.leaps(2000, -1), -1);
  }

  /** leaps() of a new object. */
  private static final class TwoDigitsLeaps {
    static int of(int year, int rule) {
      return new TwoDigits().leaps(year, rule);
    }
  }

  private static void promise13Meant() {
    TwoDigits x = new TwoDigits();
    for (int pivot = 0; pivot <= 100; pivot += 10) {
      for (int number = 0; number < 100; number++) {
        int want = (number < pivot ? 2000 : 1900) + number;
        check.due("meant(" + number + ", " + pivot + ")", x.meant(number, pivot), want);
      }
    }
    check.due("number", x.meant(100, 0), -1);
    check.due("number", x.meant(-1, 0), -1);
    check.due("pivot", x.meant(0, 101), -1);
    check.due("pivot", x.meant(0, -1), -1);
  }

  private static void promise14Night() {
    TwoDigits x = Land.with("now a;out a", "set a 5;out a", "now b;set a 60;if b<a 4;out a;end");
    x.set(0, 0, 10);
    x.set(1, 0, 20);
    x.set(2, 0, 40);
    check.due("too early", x.night(1899), -2);
    check.due("too late", x.night(2100), -2);
    check.due("nothing ran", x.count(11), 0);
    check.due("harm in 2000", x.night(2000), 50);
    check.due("three ran", x.count(11), 3);
    check.due("two are wrong", x.count(5), 2);
    check.due("harm in 1999", x.night(1999), 10);
    check.due("one is wrong", x.count(5), 1);
    check.due("they were run", x.programOf(2, 6), 0);
    x.set(0, 0, 0);
    check.due("of weight 0", x.night(1999), 0);
    check.due("still wrong", x.count(5), 1);
  }

  private static void promise14Off() {
    TwoDigits x = Land.with("now a;out a", "in b;out b", "set a 5;out a");
    x.input(1, 0);
    x.set(0, 0, 10);
    x.set(1, 0, 20);
    x.set(2, 0, 40);
    check.due("harm", x.night(1999), 30);
    x.does(0, 0, 0, 2);
    check.due("off: no run", x.programOf(0, 6), -1);
    check.due("off: none of the twin", x.programOf(0, 7), -1);
    check.due("off: not wrong", x.programOf(0, 10), 0);
    check.due("off: where they part", x.done(0, 2), -1);
    check.due("its file stays until the night", x.programOf(0, 4), 1);
    check.due("and its twin file", x.programOf(0, 5), 1);
    check.due("it still runs if told so", x.run(0, 1999), 0);
    check.due("and is wrong then", x.programOf(0, 10), 1);
    check.due("counted", x.count(5), 2);
    check.due("harm of the off one; both stop for want of numbers", x.night(1999), 10);
    check.due("its file is empty", x.programOf(0, 4), 0);
    check.due("and its twin file", x.programOf(0, 5), 0);
    check.due("the night takes its run", x.programOf(0, 6), -1);
    check.due("and the lines it did", x.done(0, 0), -1);
    check.due("and that it was wrong", x.count(5), 0);
    check.due("runs: 3, 1, 2", x.count(11), 6);
    check.due("the reader stopped", x.programOf(1, 6), 1);
    check.due("back on", x.does(0, 0, 0, 3), 0);
    check.due("harm as before", x.night(1999), 30);
  }

  /** A FILE of an earlier PROGRAM is this NIGHT's, that of a later one is still the old one. */
  private static void promise14Order() {
    TwoDigits x = Land.with("in a;out a", "now b;out b", "in c;out c");
    x.input(0, 1);
    x.input(2, 1);
    check.due("the first stops, and its twin; two are wrong", x.night(2001), 2);
    check.due("nothing yet", x.programOf(0, 4), 0);
    check.due("this night's", x.file(2, 0, true), 2001);
    check.due("all three are wrong", x.night(2007), 3);
    check.due("the night before", x.file(0, 0, true), 2001);
    check.due("this night's", x.file(2, 0, true), 2007);
    x.does(1, 0, 0, 2);
    check.due("off: the earlier one reads once more", x.night(2010), 2);
    check.due("the last night's", x.file(0, 0, true), 2007);
    check.due("the later one has nothing", x.programOf(2, 4), 0);
    check.due("then the earlier one has nothing, too", x.night(2010), 1);
  }

  private static void promise15Reach() {
    TwoDigits x = Land.with("end", "end", "end", "end", "end", "end");
    check.due("nobody reads", x.reach(0), 0);
    x.input(1, 0);
    x.input(5, 1);
    x.input(4, 5);
    x.input(3, 0);
    check.due("by 0", x.reach(0), 0b111010);
    check.due("by 1", x.reach(1), 0b110000);
    check.due("by 5", x.reach(5), 0b010000);
    check.due("by 4", x.reach(4), 0);
    check.due("by 2", x.reach(2), 0);
    x.input(0, 4);
    check.due("round about, itself", x.reach(0), 0b111011);
    check.due("round about, by 4", x.reach(4), 0b111011);
    check.due("not by 3", x.reach(3), 0);
    check.due("no such", x.reach(6), -1);
    check.due("no such", x.reach(-1), -1);
    TwoDigits y = Land.with("end", "end", "end", "end", "end", "end", "end", "end", "end", "end", "end", "end");
    for (int i = 0; i < 11; i++) {
      y.input(i, i + 1);
    }
    check.due("a long way down", y.reach(11), 0b011111111111);
  }

  private static void promise16Cross() {
    TwoDigits x = Land.with("now a;out a;out b", "in c;in d", "in c", "out a");
    for (int p = 0; p < 3; p++) {
      x.does(p, 0, 0, 0);
    }
    x.input(1, 0);
    check.due("no pivots", x.cross(0, 1, 0), 0);
    check.due("no least", x.cross(0, 1, 1), -1);
    x.mend(0, 0, 0, 0, 2, 20);
    check.due("a against none", x.cross(0, 1, 0), 100);
    check.due("the least", x.cross(0, 1, 1), 0);
    x.mend(0, 0, 0, 1, 2, 20);
    x.mend(1, 0, 0, 2, 2, 25);
    x.mend(1, 0, 0, 3, 2, 20);
    check.due("20 against 25", x.cross(0, 1, 0), 5);
    check.due("the least", x.cross(0, 1, 1), 20);
    check.due("no such what", x.cross(0, 1, 2), -1);
    check.due("no such what", x.cross(0, 1, -1), -1);
    x.mend(1, 0, 0, 3, 2, 12);
    check.due("20 against 25 and 12", x.cross(0, 1, 0), 13);
    check.due("the least", x.cross(0, 1, 1), 12);
    x.mend(1, 0, 0, 3, 4, 0);
    check.due("one of four is not asked", x.cross(0, 1, 0), 5);
    x.mend(0, 0, 0, 0, 4, 20);
    check.due("the other out field", x.cross(0, 1, 0), 5);
    x.mend(0, 0, 0, 1, 4, 20);
    check.due("no out field of two", x.cross(0, 1, 0), 0);
    check.due("no out field of two", x.cross(0, 1, 1), -1);
    check.due("not its input", x.cross(0, 2, 0), -1);
    check.due("not its input", x.cross(1, 0, 0), -1);
    check.due("no such", x.cross(-1, 0, 0), -1);
    check.due("no such", x.cross(4, 1, 0), -1);
    check.due("no such", x.cross(0, 4, 0), -1);
    x.mend(0, 0, 0, 1, 2, 0);
    x.mend(1, 0, 0, 2, 2, 100);
    check.due("all", x.cross(0, 1, 0), 100);
    x.mend(1, 0, 0, 2, 2, 1);
    check.due("only 0", x.cross(0, 1, 0), 1);
    check.due("only 0", x.cross(0, 1, 1), 0);
    x.mend(1, 0, 0, 2, 2, 0);
    check.due("none", x.cross(0, 1, 0), 0);
    x.mend(0, 0, 0, 1, 2, 99);
    x.mend(1, 0, 0, 2, 2, 100);
    check.due("only 99", x.cross(0, 1, 1), 99);
    TwoDigits y = Land.with("now f;out f", "in a;in f;if b<c 0;mov d b");
    y.input(1, 0);
    y.does(1, 0, 0, 0);
    for (int field = 1; field < 5; field++) {
      y.mend(1, 0, 0, field, 2, 50);
    }
    check.due("only what in reads", y.cross(0, 1, 0), 0);
    y.mend(1, 0, 0, 0, 2, 50);
    check.due("the first field", y.cross(0, 1, 0), 100);
    y.mend(1, 0, 0, 0, 4, 50);
    y.mend(1, 0, 0, 5, 2, 50);
    check.due("the last field", y.cross(0, 1, 0), 100);
  }
}
