/** Promises 1 to 8: a new object, THE TAPE, PROGRAMS, FIELDS, INPUTS and SHELVES. */
public final class ProgramsTest {
  private static final Check check = new Check("ProgramsTest");

  private ProgramsTest() {
  }

  public static void main(String[] args) {
    promise1NewObject();
    promise2Feed();
    promise3SoundPrograms();
    promise3Faults();
    promise3Lines();
    promise3Full();
    promise4ProgramOf();
    promise5Field();
    promise5Sure();
    promise5May();
    promise6Set();
    promise7Input();
    promise8Shelf();
    promise8Refusals();
    check.finish();
  }

  private static void promise1NewObject() {
    TwoDigits x = new TwoDigits();
    for (int what = 0; what <= 13; what++) {
      check.due("count(" + what + ") of a new one", x.count(what), 0);
    }
    check.due("programOf", x.programOf(0, 0), -5);
    check.due("run", x.run(0, 2000), -1);
    check.due("ask", x.ask(0, 2000), -1);
    check.due("taken", x.taken(0, 0), -11);
    check.due("trace", x.trace(0), -1);
    check.due("book", x.book(0, 0), -5);
    check.due("shows", x.shows(0, 0), -1);
    check.due("night without programs", x.night(2000), 0);
    check.due("beside without programs", x.beside(2000), 0);
    check.due("first without programs", x.first(0, 0, 2000, 0), 0);
    check.due("posts without stops", x.posts(3, 0), 0);
    for (int sheet = 0; sheet < 3; sheet++) {
      check.due("cell of a missing sheet", x.cell(sheet, 0, 1), -11);
    }
    check.due("NONE", TwoDigits.NONE, -1);
    check.due("BAD", TwoDigits.BAD, -2);
    check.due("STATE", TwoDigits.STATE, -3);
    check.due("FULL", TwoDigits.FULL, -4);
  }

  private static void promise2Feed() {
    TwoDigits x = new TwoDigits();
    check.due("feed none", x.feed(0x656e64, 0), 0);
    check.due("feed -1", x.feed(0x656e64, -1), -2);
    check.due("feed 5", x.feed(0x656e64, 5), -2);
    check.due("feed the lowest, the highest first", x.feed(0xff656e64, 3), 3);
    check.due("it is end", x.program(), 0);
    check.due("feed one", x.feed(0x11223367, 1), 1);
    check.due("feed two", x.feed(0x11226f20, 2), 3);
    check.due("feed one", x.feed(0x30, 1), 4);
    check.due("it is go 0", x.program(), 1);
    check.due("run", x.run(1, 2000), 2);
    check.due("feed four", x.feed(0x6f757420, 4), 4);
    check.due("feed one", x.feed('b', 1), 5);
    check.due("it is out b", x.program(), 2);
    check.due("a byte above 127", x.feed(0xe9, 1), 1);
    check.due("it is no program", x.program(), -10);
    for (int i = 1; i <= 39; i++) {
      check.due("feed", x.feed(0, 4), 4 * i);
    }
    check.due("feed", x.feed(0, 1), 157);
    check.due("one too many", x.feed(0, 4), -4);
    check.due("it stays", x.count(10), 157);
    check.due("the last three", x.feed(0, 3), 160);
    check.due("none more", x.feed(0, 1), -4);
    check.due("but none at all", x.feed(0, 0), 160);
    check.due("BAD ahead of FULL", x.feed(0, 5), -2);
    check.due("it stays", x.count(10), 160);
  }

  private static void promise3SoundPrograms() {
    String[] sound = {
      "end", "now a", "in f", "out c", "set a 1", "set a 12", "set a 123", "set a 1234", "set f 0000",
      "mov a a", "mov f b", "add c d", "sub e f", "if a<b 1", "if f<a 99", "if a=a 0", "if b=c 07",
      "leap a 1", "leap f 12", "go 0", "go 99", "end;end", "now a;now b;go 1",
      "end;end;end;end;end;end;end;end;end;end;end;end"};
    for (String text : sound) {
      TwoDigits x = new TwoDigits();
      check.due("\"" + text + "\"", Land.program(x, text), 0);
      check.due("lines of \"" + text + "\"", x.programOf(0, 3), text.split(";").length);
      check.due("the tape is empty behind \"" + text + "\"", x.count(10), 0);
    }
  }

  /** Each text up to its FAULT begins some PROGRAM; with the byte there none does. */
  private static void promise3Faults() {
    String twelve = "end;end;end;end;end;end;end;end;end;end;end;end";
    Object[][] faults = {
      {"", 0}, {";", 0}, {" ", 0}, {"x", 0}, {"End", 0}, {"f", 0}, {"\u00e5nd", 0},
      {"e", 1}, {"en", 2}, {"ene", 2}, {"end ", 3}, {"endx", 3}, {"end;", 4}, {"end;;", 4}, {"end; end", 4},
      {"end;x", 4}, {"end;en", 6}, {"end\n", 3},
      {"n", 1}, {"no", 2}, {"now", 3}, {"nowa", 3}, {"nox", 2}, {"now ", 4}, {"now g", 4}, {"now A", 4},
      {"now  a", 4}, {"now a ", 5}, {"now ab", 5}, {"now 1", 4}, {"now `", 4},
      {"i", 1}, {"ix", 1}, {"in", 2}, {"inn", 2}, {"in ", 3}, {"in g", 3}, {"in a1", 4},
      {"o", 1}, {"on", 1}, {"ou", 2}, {"out", 3}, {"out ", 4}, {"out -", 4},
      {"s", 1}, {"se", 2}, {"su", 2}, {"sa", 1}, {"sat a", 1}, {"sub", 3}, {"set", 3},
      {"set a", 5}, {"set a ", 6}, {"set a x", 6}, {"set a -1", 6}, {"set a 12345", 10}, {"set a 1 ", 7},
      {"set 1", 4}, {"set g 1", 4}, {"set a:1", 5}, {"set a 9/", 7}, {"set a :", 6},
      {"m", 1}, {"mo", 2}, {"mow", 2}, {"mov", 3}, {"mov a", 5}, {"mov a ", 6}, {"mov a 1", 6}, {"mov ab", 5},
      {"mov a g", 6}, {"a", 1}, {"ad", 2}, {"add a b c", 7}, {"sub a", 5}, {"sub a bb", 7},
      {"if", 2}, {"if ", 3}, {"if a", 4}, {"if a<", 5}, {"if a<b", 6}, {"if a<b ", 7}, {"if a<b x", 7},
      {"if a<b 123", 9}, {"if a>b 1", 4}, {"if a <b 1", 4}, {"if a< b 1", 5}, {"if a=g 1", 5}, {"if a==b 1", 5},
      {"if 1<a 1", 3}, {"if a<=b 1", 5}, {"ifa<b 1", 2},
      {"l", 1}, {"le", 2}, {"lea", 3}, {"leap", 4}, {"leap a", 6}, {"leap a ", 7}, {"leap a 123", 9},
      {"leap 1", 5}, {"leap a b", 7}, {"g", 1}, {"go", 2}, {"got", 2}, {"go ", 3}, {"go a", 3}, {"go 100", 5},
      {"go 1;", 5}, {"go 1,", 4}, {"go -1", 3},
      {twelve + ";", 47}, {twelve + ";end", 47}, {twelve + "e", 47}, {twelve.substring(4) + ";", 44},
      {"now a;in b;if b<a 5;sat a", 21}};
    for (Object[] fault : faults) {
      TwoDigits x = new TwoDigits();
      check.due("\"" + fault[0] + "\"", Land.program(x, (String) fault[0]), -10 - (Integer) fault[1]);
      check.due("no program", x.count(0), 0);
      check.due("the tape is empty behind \"" + fault[0] + "\"", x.count(10), 0);
      check.due("the next is read", Land.program(x, "end"), 0);
      check.due("with its own lines alone", x.programOf(0, 3), 1);
    }
  }

  /** Each kind of LINE does what it says: told by the TWIN, that cuts nothing. */
  private static void promise3Lines() {
    twinWrites("now a;out a", 2024, 2024);
    twinWrites("set b 1234;out b", 2024, 1234);
    twinWrites("set b 0012;out b", 2024, 12);
    twinWrites("set c 7;mov a c;out a", 2024, 7);
    twinWrites("set c 7;set d 5;add c d;out c", 2024, 12);
    twinWrites("set c 7;set d 5;sub c d;out c", 2024, 2);
    twinWrites("set c 7;set d 5;sub c d;out d", 2024, 5);
    twinWrites("set e 7;set f 8;if e<f 4;set e 1;out e", 2024, 7);
    twinWrites("set e 8;set f 8;if e<f 4;set e 1;out e", 2024, 1);
    twinWrites("set e 8;set f 8;if e=f 04;set e 1;out e", 2024, 8);
    twinWrites("set e 7;set f 8;if e=f 4;set e 1;out e", 2024, 1);
    twinWrites("now a;leap a 3;set b 1;out b", 2024, 0);
    twinWrites("now a;leap a 3;set b 1;out b", 2023, 1);
    twinWrites("go 02;set b 1;out b", 2024, 0);
    twinWrites("out f;end;out a;out a", 2024, 0);
  }

  private static void twinWrites(String text, int year, int number) {
    TwoDigits x = Land.with(text);
    check.due("run of " + text, x.run(0, year), 0);
    check.due("numbers of " + text, x.programOf(0, 5), 1);
    check.due("twin file of " + text, x.file(0, 0, true), number);
  }

  private static void promise3Full() {
    TwoDigits x = new TwoDigits();
    for (int i = 0; i < 12; i++) {
      check.due("program " + i, Land.program(x, "end"), i);
    }
    Land.feed(x, "end");
    check.due("a thirteenth", x.program(), -4);
    check.due("the tape stays", x.count(10), 3);
    Land.feed(x, "?");
    check.due("FULL ahead of a fault", x.program(), -4);
    check.due("the tape stays", x.count(10), 4);
    check.due("programs", x.count(0), 12);
  }

  private static void promise4ProgramOf() {
    TwoDigits x = Land.with("now a;out a;out a;in b", "end");
    int[] atFirst = {0, -1, 0, 4, 0, 0, -1, -1, 1, 1, 0};
    for (int what = 0; what < atFirst.length; what++) {
      check.due("programOf(0, " + what + ")", x.programOf(0, what), atFirst[what]);
    }
    check.due("what 11", x.programOf(0, 11), -5);
    check.due("what -1", x.programOf(0, -1), -5);
    check.due("program 2", x.programOf(2, 0), -5);
    check.due("program -1", x.programOf(-1, 0), -5);
    x.input(0, 1);
    x.set(0, 0, 7);
    x.set(0, 1, 9);
    x.does(0, 0, 0, 0);
    x.mendRule(0, 0, 0, 2);
    x.run(0, 1999);
    int[] then = {2, 1, 2, 4, 2, 2, 1, 1, 7, 9, 1};
    for (int what = 0; what < then.length; what++) {
      check.due("programOf(0, " + what + ") then", x.programOf(0, what), then[what]);
    }
    check.due("the other is as it was", x.programOf(1, 8), 1);
    TwoDigits y = Land.with("in a;out a", "now b;set a 1;if b<a 4;out a;out b");
    y.input(0, 1);
    y.run(1, 2000);
    check.due("its file", y.programOf(1, 4), 1);
    check.due("its twin file", y.programOf(1, 5), 2);
    check.due("its end", y.programOf(1, 6), 0);
    TwoDigits z = Land.with("now a;set b 50;if a<b 4;go 2;in c");
    z.run(0, 2000);
    check.due("stopped", z.programOf(0, 6), 1);
    check.due("its twin loops", z.programOf(0, 7), 2);
    check.due("wrong by its end alone", z.programOf(0, 10), 1);
    z.run(0, 1999);
    check.due("both loop", z.programOf(0, 6), 2);
    check.due("not wrong, with files alike", z.programOf(0, 10), 0);
  }

  private static void promise5Field() {
    TwoDigits x = Land.with("now a;out a", "end");
    for (int field = 0; field < 6; field++) {
      check.due("digits at first", x.field(0, field, 0), 2);
      check.due("pivot at first", x.field(0, field, 1), -1);
    }
    x.does(0, 0, 0, 0);
    x.mend(0, 0, 0, 5, 4, 100);
    x.mend(0, 0, 0, 4, 2, 0);
    check.due("digits", x.field(0, 5, 0), 4);
    check.due("pivot", x.field(0, 5, 1), 100);
    check.due("pivot", x.field(0, 4, 1), 0);
    check.due("of another field", x.field(0, 3, 0), 2);
    check.due("of another program", x.field(1, 5, 0), 2);
    check.due("no such field", x.field(0, 6, 0), -5);
    check.due("no such field", x.field(0, -1, 0), -5);
    check.due("no such program", x.field(2, 0, 0), -5);
    check.due("no such program", x.field(-1, 0, 0), -5);
    check.due("no such what", x.field(0, 0, 3), -5);
    check.due("no such what", x.field(0, 0, -1), -5);
  }

  private static void years(TwoDigits x, int program, int... want) {
    for (int field = 0; field < 6; field++) {
      check.due("field(" + program + ", " + field + ", 2)", x.field(program, field, 2), want[field]);
    }
  }

  private static void promise5Sure() {
    years(Land.with("mov b a;now a"), 0, 1, 1, 0, 0, 0, 0);
    years(Land.with("now a;add b a"), 0, 1, 1, 0, 0, 0, 0);
    years(Land.with("now a;sub b a"), 0, 1, 1, 0, 0, 0, 0);
    years(Land.with("now a;mov a b"), 0, 1, 0, 0, 0, 0, 0);
    years(Land.with("set a 1999;in b;mov c a"), 0, 0, 0, 0, 0, 0, 0);
    years(Land.with("mov f e;mov e d;mov d c;mov c b;mov b a;end;now a"), 0, 1, 1, 1, 1, 1, 1);
    TwoDigits x = Land.with("now b;out a;mov a b", "in c;out d", "in e", "in f;mov d c;mov c f");
    years(x, 1, 0, 0, 0, 0, 0, 0);
    x.input(1, 0);
    x.input(2, 1);
    x.input(3, 1);
    years(x, 0, 1, 1, 0, 0, 0, 0);
    years(x, 1, 0, 0, 1, 0, 0, 0);
    years(x, 2, 0, 0, 0, 0, 0, 0);
    x.input(3, 0);
    x.input(2, 3);
    years(x, 3, 0, 0, 1, 1, 0, 1);
    years(x, 2, 0, 0, 0, 0, 0, 0);
    TwoDigits y = Land.with("in a;out a", "in b;out b", "in c;out c;now d", "now f;out f");
    y.input(0, 1);
    y.input(1, 2);
    y.input(2, 3);
    years(y, 0, 1, 0, 0, 0, 0, 0);
    y.input(2, 0);
    years(y, 0, 0, 0, 0, 0, 0, 0);
    years(y, 2, 0, 0, 0, 1, 0, 0);
  }

  private static void promise5May() {
    years(Land.with("now a;if a<b 0"), 0, 1, 2, 0, 0, 0, 0);
    years(Land.with("now a;if c=a 0"), 0, 1, 0, 2, 0, 0, 0);
    years(Land.with("now a;if c=a 0;if d<c 0"), 0, 1, 0, 2, 0, 0, 0);
    years(Land.with("now a;now b;if a<b 0"), 0, 1, 1, 0, 0, 0, 0);
    years(Land.with("if a<b 0;if a=a 0;leap c 0"), 0, 0, 0, 0, 0, 0, 0);
    years(Land.with("now a;if a<b 0;mov c b"), 0, 1, 2, 0, 0, 0, 0);
  }

  private static void promise6Set() {
    TwoDigits x = Land.with("end", "end");
    check.due("weight", x.set(0, 0, 99), 1);
    check.due("weight", x.set(0, 0, 0), 99);
    check.due("days", x.set(0, 1, 99), 1);
    check.due("days", x.set(0, 1, 5), 99);
    check.due("weight now", x.programOf(0, 8), 0);
    check.due("days now", x.programOf(0, 9), 5);
    check.due("of the other", x.programOf(1, 8), 1);
    check.due("no such what", x.set(0, 2, 100), -1);
    check.due("no such what", x.set(0, -1, 1), -1);
    check.due("no such program", x.set(2, 0, 1), -1);
    check.due("no such program", x.set(-1, 0, 100), -1);
    check.due("too much", x.set(0, 0, 100), -2);
    check.due("too little", x.set(0, 1, -1), -2);
    check.due("nothing changed", x.programOf(0, 8), 0);
    check.due("nothing changed", x.programOf(0, 9), 5);
  }

  private static void promise7Input() {
    TwoDigits x = Land.with("in a;out a", "set a 5;out a");
    Land.shelf(x, 0, 7);
    check.due("its own", x.input(0, 0), -2);
    check.due("no such", x.input(0, 2), -1);
    check.due("no such", x.input(0, -2), -1);
    check.due("no such", x.input(2, 0), -1);
    check.due("no such, ahead of its own", x.input(2, 2), -1);
    check.due("no such", x.input(-1, -1), -1);
    check.due("run from the shelf", x.run(0, 2000), 0);
    check.due("from the shelf", x.file(0, 0, false), 7);
    check.due("it was the shelf", x.input(0, 1), -1);
    check.due("the file is empty yet", x.run(0, 2000), 1);
    x.run(1, 2000);
    check.due("run from the file", x.run(0, 2000), 0);
    check.due("from the file", x.file(0, 0, false), 5);
    check.due("it was a file", x.input(0, -1), 1);
    x.run(0, 2000);
    check.due("from the shelf again", x.file(0, 0, false), 7);
  }

  private static void promise8Shelf() {
    TwoDigits x = Land.with("in a;in b;in c;in d;in e;in f;out a;out b;out c;out d;out e;out f");
    x.sheet(1, 2, 8);
    int[] numbers = {-1, -2, 0, 9999, 10000, 12345, Integer.MAX_VALUE, Integer.MIN_VALUE};
    int[] read = {0, 0, 0, 9999, 0, 2345, 3647, 0};
    for (int i = 0; i < numbers.length; i++) {
      x.cell(1, i, numbers[i]);
    }
    for (int from = 0; from <= 2; from++) {
      check.due("shelf", x.shelf(0, 1, 2, from, 6), 6);
      check.due("run", x.run(0, 2000), 0);
      for (int i = 0; i < 6; i++) {
        check.due("number " + i + " from " + from, x.file(0, i, true), read[from + i]);
        check.due("and cut", x.file(0, i, false), read[from + i] % 100);
      }
    }
    check.due("five", x.shelf(0, 1, 2, 0, 5), 5);
    check.due("the sixth is none", x.run(0, 2000), 1);
    check.due("done", x.done(0, 0), 6);
    x.cell(1, 0, 77);
    Land.shelf(x, 0, 1, 2, 3, 4, 5, 6, 7);
    x.run(0, 2000);
    check.due("told anew", x.file(0, 5, false), 6);
    TwoDigits y = Land.with("in a;in b;out b");
    y.sheet(0, 0, 2);
    y.cell(0, 1, 200);
    y.shelf(0, 0, 0, 0, 2);
    y.run(0, 2000);
    check.due("a byte below 0 is blank", y.file(0, 0, true), 0);
    y.sheet(0, 1, 2);
    y.cell(0, 1, 32767);
    y.shelf(0, 0, 1, 0, 2);
    y.cell(0, 1, 5);
    y.run(0, 2000);
    check.due("as it was told", y.file(0, 0, true), 2767);
  }

  private static void promise8Refusals() {
    TwoDigits x = Land.with("in a;out a");
    Land.shelf(x, 0, 8);
    x.sheet(0, 1, 12);
    check.due("twelve", x.shelf(0, 0, 1, 0, 12), 12);
    Land.shelf(x, 0, 8);
    check.due("no such program", x.shelf(1, 0, 1, 0, 1), -1);
    check.due("no such program", x.shelf(-1, 0, 1, 0, 1), -1);
    check.due("no such sheet", x.shelf(0, 3, 1, 0, 13), -1);
    check.due("no such sheet", x.shelf(0, -1, 1, 0, 0), -1);
    check.due("no such sort", x.shelf(0, 0, 3, 0, 0), -1);
    check.due("no such sort", x.shelf(0, 0, -1, 0, 0), -1);
    check.due("too many", x.shelf(0, 1, 1, 0, 13), -2);
    check.due("too few", x.shelf(0, 0, 2, 0, -1), -2);
    check.due("another sort", x.shelf(0, 0, 2, 50, 1), -13);
    check.due("another sort", x.shelf(0, 0, 0, 0, 1), -13);
    check.due("missing", x.shelf(0, 1, 1, 0, 1), -11);
    check.due("beyond", x.shelf(0, 0, 1, 1, 12), -12);
    check.due("beyond", x.shelf(0, 0, 1, 12, 1), -12);
    check.due("below", x.shelf(0, 0, 1, -1, 1), -12);
    check.due("far beyond", x.shelf(0, 0, 1, Integer.MAX_VALUE, 12), -12);
    check.due("far below", x.shelf(0, 0, 1, Integer.MIN_VALUE, 12), -12);
    x.run(0, 2000);
    check.due("nothing changed", x.file(0, 0, false), 8);
    check.due("the last item", x.shelf(0, 0, 1, 11, 1), 1);
    check.due("none: nothing else is asked", x.shelf(0, 1, 2, -9, 0), 0);
    check.due("the shelf is empty", x.run(0, 2000), 1);
  }
}
