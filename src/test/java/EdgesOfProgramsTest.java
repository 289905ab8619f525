/** The sentences of promises 1 to 8, and of the terms they use, that name a boundary: one run of calls each. */
public final class EdgesOfProgramsTest {
  private static final Check check = new Check("EdgesOfProgramsTest");

  private EdgesOfProgramsTest() {
  }

  public static void main(String[] args) {
    newObject();
    used();
    feed();
    program();
    lines();
    faults();
    programOf();
    field();
    sureAndMay();
    setAndInput();
    shelf();
    shelfRefusals();
    check.finish();
  }

  private static void edge(String sentence, String calls) {
    Script.run(check, sentence, calls);
  }

  private static void newObject() {
    edge("1: No PROGRAMS", """
        count(0) 0
        programOf(0, 0) -5
        run(0, 2000) NONE""");
    edge("1: No .. CHIPS", """
        count(1) 0
        fit(0, 0) NONE""");
    edge("1: No .. THINGS", """
        count(2) 0
        taken(0, 0) -11""");
    edge("SHEETS 0 .. 2 are rows of numbers, or missing (as all are at first)", """
        cell(0, 0, 1) -11
        cell(1, 0, 1) -11
        cell(2, 0, 1) -11
        cell(3, 0, 1) BAD""");
  }

  private static void used() {
    edge("An object is used for at most 512 calls: the last of them", """
        "now a;out a" 0
        507 x run(0, 1999) 0
        count(11) 507""");
    edge("An object is used for at most 512 calls: each told in THE BOOK", """
        "end" 0
        does(0, 0, 0, 0) 1
        508 x mendRule(0, 7, 999, 2) 2
        count(6) 509""");
  }

  private static void feed() {
    edge("2: n 0", """
        feed(-1, 0) 0
        count(10) 0""");
    edge("2: n .. 4", """
        feed(-1, 4) 4
        count(10) 4""");
    edge("2: n below 0 is BAD", """
        feed(101, -1) BAD
        feed(101, MIN) BAD
        count(10) 0""");
    edge("2: n above 4 is BAD", """
        feed(101, 5) BAD
        feed(101, MAX) BAD
        count(10) 0""");
    // 1768824930 is "in b" and 8290 " b", whatever stands above the bytes that are asked for
    edge("2: the n lowest bytes of a number", """
        feed(1768824864, 3) 3
        programOf(0, 0) -5
        program() -11
        feed(1768824930, 4) 4
        program() 0
        feed(26990, 2) 2
        feed(2116165730, 2) 4
        program() 1""");
    edge("2: the highest of these first", """
        feed(6647396, 3) 3
        program() 0
        feed(6581861, 3) 3
        program() -10""");
    edge("THE TAPE (bytes, 160 at most)", """
        40 x feed(0, 4)
        count(10) 160
        feed(0, 1) FULL
        feed(0, 4) FULL
        count(10) 160""");
    edge("2: FULL: not even a part comes to THE TAPE", """
        39 x feed(0, 4)
        feed(0, 1) 157
        feed(0, 4) FULL
        count(10) 157
        feed(0, 3) 160""");
    edge("2: no byte comes to a full TAPE, too", """
        40 x feed(0, 4)
        feed(0, 0) 160""");
    edge("2: BAD, then FULL", """
        40 x feed(0, 4)
        feed(0, 5) BAD
        feed(0, -1) BAD""");
    edge("2: bytes of a number below 0, and above 127", """
        feed(-1, 1) 1
        feed(128, 1) 2
        program() -10""");
  }

  private static void program() {
    edge("3: -10 less the FAULT: 0", """
        program() -10
        "x" -10""");
    edge("PROGRAMS 0 .. 11, as they come", """
        "end" 0
        10 x "end"
        "end" 11
        count(0) 12
        programOf(11, 0) 0
        programOf(12, 0) -5""");
    edge("3: THE TAPE is empty then", """
        "now a" 0
        count(10) 0
        program() -10""");
    edge("3: by a FAULT, too", """
        "now x" -14
        count(10) 0
        "end" 0
        programOf(0, 3) 1""");
    edge("3: no number goes to one with a FAULT", """
        "end" 0
        "ende" -13
        count(0) 1
        "end" 1""");
    edge("3: FULL .. it stays", """
        12 x "end"
        feed(6647396, 3) 3
        program() FULL
        count(10) 3
        program() FULL
        feed(0, 1) 4""");
    edge("3: FULL (ahead of all): of a FAULT", """
        12 x "end"
        feed(0, 1) 1
        program() FULL
        count(10) 1""");
    edge("3: FULL (ahead of all): of an empty TAPE", """
        12 x "end"
        program() FULL""");
    edge("a full TAPE is read", """
        40 x feed(1701733435, 4)
        program() -57
        count(10) 0""");
  }

  private static void lines() {
    edge("1 to 12 LINES: none", """
        program() -10
        ";" -10""");
    edge("1 to 12 LINES: one", """
        "end" 0
        programOf(0, 3) 1""");
    edge("1 to 12 LINES: twelve", """
        "end;end;end;end;end;end;end;end;end;end;end;end" 0
        programOf(0, 3) 12""");
    edge("twelve of the longest", """
        "set a 1234;set a 1234;set a 1234;set a 1234;set a 1234;set a 1234;set a 1234;set a 1234;\
        set a 1234;set a 1234;set a 1234;set f 9999" 0
        programOf(0, 3) 12""");
    edge("1 to 12 LINES: thirteen", """
        "end;end;end;end;end;end;end;end;end;end;end;end;end" -57
        count(0) 0""");
    edge("a ; behind 12 LINES, too", """
        "end;end;end;end;end;end;end;end;end;end;end;end;" -57""");
    edge("; between: none behind the last", """
        "end;" -14
        "end;;end" -14""");
    edge("; between: none ahead of the first", """
        ";end" -10""");
    edge("one blank between the parts: none", """
        "nowa" -13
        "set a5" -15
        "mov ab" -15
        "if a<b5" -16
        "leap a5" -16
        "go5" -12""");
    edge("one blank between the parts: two", """
        "now  a" -14
        "set a  5" -16
        "if  a<b 5" -13
        "go  5" -13""");
    edge("one blank between the parts: none ahead, none behind, none in a condition", """
        " end" -10
        "end " -13
        "end; end" -14
        "if a <b 5" -14
        "if a< b 5" -15""");
    edge("F, G: a letter a .. f", """
        "now a" 0
        "now f" 1
        "mov f a" 2
        "if f=f 1" 3
        "now g" -14
        "now `" -14
        "mov a g" -16
        "if a<g 1" -15
        "if g<a 1" -13
        "out A" -14""");
    edge("N: 1 to 4 digits", """
        "set a 0" 0
        "set a 9999" 1
        "set a " -16
        "set a 10000" -20
        "set a 00000" -20""");
    edge("L: 1 or 2 digits", """
        "go 0" 0
        "go 99" 1
        "go " -13
        "go 000" -15
        "if a<b 100" -19
        "if a=b " -17
        "leap a 100" -19
        "leap a " -17""");
    edge("digits 0 .. 9", """
        "set a /" -16
        "set a :" -16
        "go 0/" -14
        "go 9:" -14""");
  }

  private static void faults() {
    edge("the end of THE TAPE, if it ends too early", """
        "e" -11
        "en" -12
        "s" -11
        "set" -13
        "set a" -15
        "if a" -14
        "if a<b" -16
        "end;n" -15""");
    edge("the first byte with which none begins so: other words begin like it", """
        "ot" -11
        "ix" -11
        "so" -11
        "sex" -12
        "sux" -12
        "mot" -12
        "eno" -12
        "lead" -13""");
    edge("the first byte: what follows it is not looked at", """
        "xend" -10
        "now g;zzz" -14""");
    edge("the end of THE TAPE: what a longer one had there is gone", """
        "mov a f;end;leap f 99;if c=d 7" 0
        "mov a f;en" -20
        "mov a f;" -18
        "mov a " -16
        "mov a" -15
        "mo" -12
        "mov a f;end;leap f 99;if c=d 7" 1
        "mov a f;end;leap f 99;if c=" -37
        "mov a f;end;leap f " -29
        "mov a f;end;leap " -27""");
    edge("the end of THE TAPE: a number ends there, too", """
        "set a 1234" 0
        "set a 5" 1
        "go 12" 2
        "go 0" 3
        run(1, 2000) 0
        run(3, 2000) 2""");
    edge("the FAULT of the longest PROGRAM: a digit too many, a ; behind it", """
        "set a 1234;set a 1234;set a 1234;set a 1234;set a 1234;set a 1234;set a 1234;set a 1234;\
        set a 1234;set a 1234;set a 1234;set f 12345" -141
        "set a 1234;set a 1234;set a 1234;set a 1234;set a 1234;set a 1234;set a 1234;set a 1234;\
        set a 1234;set a 1234;set a 1234;set f 1234;" -141""");
    edge("the FAULT of a later LINE", """
        "end;end;x" -18
        "now a;now b;now g" -26""");
  }

  private static void programOf() {
    edge("4: END of the RUN last made (-1 none), 7 of its TWIN", """
        "end" 0
        programOf(0, 6) -1
        programOf(0, 7) -1
        run(0, 2000) 0
        programOf(0, 6) 0
        programOf(0, 7) 0""");
    edge("4: WRONG (0 if none was made)", """
        "now a;out a" 0
        programOf(0, 10) 0
        run(0, 2000) 0
        programOf(0, 10) 1""");
    edge("4: none made: one that became OFF has none, and is not WRONG", """
        "now a;out a" 0
        run(0, 2000) 0
        does(0, 0, 0, 2) 5
        programOf(0, 6) -1
        programOf(0, 7) -1
        programOf(0, 10) 0""");
    edge("4: INPUT (NONE its SHELF)", """
        "end" 0
        "end" 1
        programOf(1, 1) NONE
        input(1, 0) NONE
        programOf(1, 1) 0""");
    edge("Its FILE: up to 12 numbers (none at first)", """
        "out a;go 0" 0
        programOf(0, 4) 0
        programOf(0, 5) 0
        run(0, 2000) 1
        programOf(0, 4) 12
        programOf(0, 5) 12""");
    edge("a WEIGHT: 1 at first; DAYS: 1 at first", """
        "end" 0
        programOf(0, 8) 1
        programOf(0, 9) 1""");
    edge("4: -5: none such: PROGRAM", """
        programOf(0, 0) -5
        "end" 0
        programOf(1, 0) -5
        programOf(-1, 0) -5
        programOf(MIN, 0) -5
        programOf(MAX, 0) -5""");
    edge("4: -5: none such: what", """
        "end" 0
        programOf(0, 11) -5
        programOf(0, -1) -5
        programOf(0, MIN) -5""");
  }

  private static void field() {
    edge("FIELDS a .. f (0 .. 5)", """
        "end" 0
        field(0, 0, 0) 2
        field(0, 5, 0) 2
        field(0, -1, 0) -5
        field(0, 6, 0) -5""");
    edge("each of 2 or 4 DIGITS (2 at first)", """
        "end" 0
        field(0, 3, 0) 2
        does(0, 0, 0, 0) 1
        mend(0, 0, 0, 3, 4, -1) 2
        field(0, 3, 0) 4""");
    edge("with a PIVOT (0 .. 100) or none (NONE, at first)", """
        "end" 0
        field(0, 2, 1) NONE
        does(0, 0, 0, 0) 1
        mend(0, 0, 0, 2, 2, 0) 2
        field(0, 2, 1) 0
        mend(0, 0, 0, 2, 2, 100) 2
        field(0, 2, 1) 100
        mend(0, 0, 0, 2, 2, NONE) 2
        field(0, 2, 1) NONE""");
    edge("a LEAP RULE (0 .. 2; 0 at first)", """
        "end" 0
        programOf(0, 2) 0
        does(0, 0, 0, 0) 1
        mendRule(0, 0, 0, 2) 2
        programOf(0, 2) 2
        mendRule(0, 0, 0, 0) 2
        programOf(0, 2) 0""");
    edge("5: -5: none such: PROGRAM", """
        field(0, 0, 0) -5
        "end" 0
        field(1, 0, 1) -5
        field(-1, 0, 2) -5""");
    edge("5: -5: none such: what", """
        "end" 0
        field(0, 0, 3) -5
        field(0, 0, -1) -5""");
  }

  private static void sureAndMay() {
    edge("SURE: so all that follow: a chain told backwards, through three PROGRAMS", """
        "mov f e;mov e d;mov d c;mov c b;mov b a;in a;out f" 0
        "mov f e;mov e d;mov d c;mov c b;mov b a;in a;out f" 1
        "now a;out a" 2
        input(0, 1) NONE
        input(1, 2) NONE
        field(0, 5, 2) 1
        field(1, 5, 2) 1""");
    edge("SURE: so all that follow: backwards through all FIELDS of twelve PROGRAMS", """
        11 x "mov f e;mov e d;mov d c;mov c b;mov b a;in a;out f"
        "mov f e;mov e d;mov d c;mov c b;mov b a;now a;out f" 11
        input(0, 1)
        input(1, 2)
        input(2, 3)
        input(3, 4)
        input(4, 5)
        input(5, 6)
        input(6, 7)
        input(7, 8)
        input(8, 9)
        input(9, 10)
        input(10, 11)
        field(0, 5, 2) 1
        field(0, 0, 2) 1
        field(6, 3, 2) 1""");
    edge("SURE: wherever the LINE stands that writes it or gives it", """
        "out a;end;now a" 0
        "end;in b" 1
        input(1, 0) NONE
        field(1, 1, 2) 1
        field(1, 0, 2) 0""");
    edge("MAY: wherever the if stands", """
        "if b<a 0;end;now a;end;if a=c 0" 0
        field(0, 1, 2) 2
        field(0, 2, 2) 2
        field(0, 3, 2) 0""");
    edge("SURE: round about, without a year, is none", """
        "in a;out a" 0
        "in a;out a" 1
        input(0, 1) NONE
        input(1, 0) NONE
        field(0, 0, 2) 0
        field(1, 0, 2) 0""");
    edge("SURE: by in from a SHELF is none", """
        "in a" 0
        shelve 0: 1999
        field(0, 0, 2) 0""");
    edge("SURE: by a LINE that no RUN does, too", """
        "end;now a" 0
        field(0, 0, 2) 1""");
    edge("MAY: not SURE, but asked in some if beside a SURE one", """
        "now a;now b;if a<b 0;if c=a 0" 0
        field(0, 0, 2) 1
        field(0, 1, 2) 1
        field(0, 2, 2) 2
        field(0, 3, 2) 0""");
    edge("MAY: beside one that MAY only is neither", """
        "now a;if a<b 0;if b<c 0" 0
        field(0, 1, 2) 2
        field(0, 2, 2) 0""");
    edge("SURE once its INPUT is told so, and not when it is taken back", """
        "now a;out a" 0
        "in b" 1
        field(1, 1, 2) 0
        input(1, 0) NONE
        field(1, 1, 2) 1
        input(1, NONE) 0
        field(1, 1, 2) 0""");
  }

  private static void setAndInput() {
    edge("WEIGHTS (0 .. 99)", """
        "end" 0
        set(0, 0, 0) 1
        set(0, 0, 99) 0
        set(0, 0, 100) BAD
        set(0, 0, -1) BAD
        programOf(0, 8) 99""");
    edge("DAYS that mending takes (0 .. 99)", """
        "end" 0
        set(0, 1, 0) 1
        set(0, 1, 99) 0
        set(0, 1, 100) BAD
        set(0, 1, -1) BAD
        programOf(0, 9) 99""");
    edge("6: NONE: PROGRAM, what", """
        "end" 0
        set(1, 0, 5) NONE
        set(-1, 0, 5) NONE
        set(0, 2, 5) NONE
        set(0, -1, 5) NONE""");
    edge("6: NONE, then BAD", """
        "end" 0
        set(1, 0, 100) NONE
        set(0, 2, -1) NONE""");
    edge("7: NONE: no such ones", """
        "end" 0
        "end" 1
        input(2, 0) NONE
        input(-1, 0) NONE
        input(0, 2) NONE
        input(0, -2) NONE
        input(0, MIN) NONE
        programOf(0, 1) NONE""");
    edge("7: BAD: its own", """
        "end" 0
        "end" 1
        input(0, 0) BAD
        input(1, 1) BAD
        programOf(0, 1) NONE""");
    edge("7: NONE, then BAD", """
        input(0, 0) NONE
        "end" 0
        input(1, 1) NONE""");
    edge("7: or its SHELF (NONE): what it was", """
        "end" 0
        "end" 1
        input(0, NONE) NONE
        input(0, 1) NONE
        input(0, 1) 1
        input(0, NONE) 1
        input(0, NONE) NONE""");
  }

  private static void shelf() {
    edge("12 at most; n (0 .. 12)", """
        "in a;out a;go 0" 0
        sheet(0, 2, 13) 1
        shelf(0, 0, 2, 1, 12) 12
        run(0, 2000) 1
        programOf(0, 4) 12
        shelf(0, 0, 2, 0, 13) BAD
        shelf(0, 0, 2, 0, -1) BAD
        run(0, 2000) 1
        programOf(0, 4) 12""");
    edge("8: n 0: the SHELF is empty then", """
        "in a;out a;go 0" 0
        shelve 0: 5
        sheet(0, 2, 1) 1
        shelf(0, 0, 2, 0, 0) 0
        run(0, 2000) 1
        programOf(0, 4) 0""");
    edge("8: n 0: nothing else is asked", """
        "end" 0
        sheet(0, 2, 1) 1
        shelf(0, 0, 1, 0, 0) 0
        shelf(0, 1, 2, 0, 0) 0
        shelf(0, 0, 2, -1, 0) 0
        shelf(0, 0, 2, 99, 0) 0""");
    edge("below -1: -1; one that is BLANK (-1) reads as 0", """
        "in a;out a;in a;out a;in a;out a" 0
        shelve 0: -1 -2 MIN
        run(0, 2000) 0
        file(0, 0, true) 0
        file(0, 1, true) 0
        file(0, 2, true) 0
        file(0, 0, false) 0
        file(0, 1, false) 0
        file(0, 2, false) 0""");
    edge("above 9999: its last four figures", """
        "in a;out a;in a;out a;in a;out a;in a;out a" 0
        shelve 0: 9999 10000 19999 MAX
        run(0, 2000) 0
        file(0, 0, true) 9999
        file(0, 1, true) 0
        file(0, 2, true) 9999
        file(0, 3, true) 3647""");
    edge("from item i on, to the last one", """
        "in a;out a;in a;out a" 0
        sheet(0, 2, 3) 1
        cell(0, 1, 7) 1
        cell(0, 2, 8) 1
        shelf(0, 0, 2, 1, 2) 2
        run(0, 2000) 0
        file(0, 0, false) 7
        file(0, 1, false) 8""");
    edge("a SHELF is told by a SHEET: it does not follow it", """
        "in a;out a" 0
        sheet(0, 2, 1) 1
        cell(0, 0, 7) 1
        shelf(0, 0, 2, 0, 1) 1
        cell(0, 0, 8) 1
        sheet(0, -1, 0) 1
        run(0, 2000) 0
        file(0, 0, false) 7""");
  }

  private static void shelfRefusals() {
    edge("8: NONE: no such PROGRAM, SHEET, sort", """
        "end" 0
        sheet(0, 0, 1) 1
        shelf(1, 0, 0, 0, 1) NONE
        shelf(-1, 0, 0, 0, 1) NONE
        shelf(0, 3, 0, 0, 1) NONE
        shelf(0, -1, 0, 0, 1) NONE
        shelf(0, 0, 3, 0, 1) NONE
        shelf(0, 0, -1, 0, 1) NONE""");
    edge("8: -13: it is of another sort", """
        "end" 0
        sheet(0, 1, 1) 1
        shelf(0, 0, 0, 0, 1) -13
        shelf(0, 0, 1, 0, 1) 1
        shelf(0, 0, 2, 0, 1) -13""");
    edge("8: -11: it is missing", """
        "end" 0
        shelf(0, 0, 0, 0, 1) -11
        sheet(0, 0, 1) 1
        shelf(0, 0, 0, 0, 1) 1
        sheet(0, -1, 1) 1
        shelf(0, 0, 0, 0, 1) -11""");
    edge("8: -12: it has not so many items", """
        "end" 0
        sheet(0, 0, 3) 1
        shelf(0, 0, 0, 0, 3) 3
        shelf(0, 0, 0, 0, 4) -12
        shelf(0, 0, 0, 1, 3) -12
        shelf(0, 0, 0, 3, 1) -12
        shelf(0, 0, 0, -1, 1) -12
        shelf(0, 0, 0, MAX, 12) -12
        shelf(0, 0, 0, MIN, 12) -12""");
    edge("8: a SHEET of no items has not one", """
        "end" 0
        sheet(0, 0, 0) 1
        shelf(0, 0, 0, 0, 1) -12
        shelf(0, 0, 0, 0, 0) 0""");
    edge("8: NONE, then BAD, then -13 or -11, then -12", """
        "end" 0
        sheet(0, 1, 1) 1
        shelf(0, 3, 0, 0, 13) NONE
        shelf(0, 0, 3, 0, -1) NONE
        shelf(0, 0, 2, 9, 13) BAD
        shelf(0, 1, 2, 9, 13) BAD
        shelf(0, 0, 2, 9, 1) -13
        shelf(0, 1, 2, 9, 1) -11""");
    edge("8: what is refused changes nothing: the SHELF", """
        "in a;out a" 0
        shelve 0: 7
        sheet(0, 1, 1) 1
        shelf(0, 0, 2, 0, 1) -13
        shelf(0, 1, 2, 0, 1) -11
        shelf(0, 0, 1, 0, 2) -12
        shelf(0, 0, 1, 0, 13) BAD
        run(0, 2000) 0
        file(0, 0, false) 7""");
  }
}
