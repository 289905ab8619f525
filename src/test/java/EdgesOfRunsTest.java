/** The sentences of promises 9 to 16, and of the terms they use, that name a boundary: one run of calls each. */
public final class EdgesOfRunsTest {
  private static final Check check = new Check("EdgesOfRunsTest");

  private EdgesOfRunsTest() {
  }

  public static void main(String[] args) {
    years();
    figuresKept();
    meant();
    leaps();
    ends();
    loops();
    twins();
    fileAndDone();
    parts();
    night();
    off();
    reach();
    cross();
    check.finish();
  }

  private static void edge(String sentence, String calls) {
    Script.run(check, sentence, calls);
  }

  private static void years() {
    edge("a YEAR (1900 .. 2099): 9: BAD: the YEAR", """
        "now a;out a" 0
        run(0, 1899) BAD
        run(0, 2100) BAD
        run(0, MIN) BAD
        programOf(0, 6) -1
        run(0, 1900) 0
        file(0, 0, true) 1900
        run(0, 2099) 0
        file(0, 0, true) 2099""");
    edge("9: NONE, then BAD", """
        run(0, 1899) NONE
        "end" 0
        run(1, 2000) NONE
        run(-1, 2100) NONE""");
    edge("FIELDS are 0: in the first RUN and in each", """
        "out f;now f;out f" 0
        run(0, 1999) 0
        file(0, 0, false) 0
        file(0, 0, true) 0
        run(0, 1999) 0
        file(0, 0, false) 0
        file(0, 0, true) 0""");
    edge("its FILE (emptied as it begins), and the TWIN FILE", """
        "now a;set b 50;if a<b 4;end;out a;out a" 0
        run(0, 2010) 0
        programOf(0, 4) 2
        programOf(0, 5) 0
        run(0, 1999) 0
        programOf(0, 4) 0
        run(0, 2010) 0
        programOf(0, 4) 2""");
  }

  private static void figuresKept() {
    edge("the last 2 figures are kept", """
        "set a 99;out a;set a 100;out a;set a 9999;out a" 0
        run(0, 2000) 0
        file(0, 0, false) 99
        file(0, 1, false) 0
        file(0, 2, false) 99""");
    edge("the last .. 4 figures are kept", """
        "set b 1;set a 9999;out a;add a b;out a;add a b;out a" 0
        does(0, 0, 0, 0) 1
        mend(0, 0, 0, 0, 4, -1) 2
        run(0, 2000) 0
        file(0, 0, false) 9999
        file(0, 1, false) 0
        file(0, 2, false) 1
        file(0, 1, true) 10000""");
    edge("of every number that comes into a FIELD: now, in, mov", """
        "now a;out a;in b;out b;set c 1234;mov d c;out d" 0
        shelve 0: 5678
        does(0, 0, 0, 0) 1
        mend(0, 0, 0, 2, 4, -1) 2
        run(0, 1987) 0
        file(0, 0, false) 87
        file(0, 1, false) 78
        file(0, 2, false) 34""");
    edge("of one below 0: 100 .. times as often added as it takes: once", """
        "set b 1;sub a b;out a" 0
        run(0, 2000) 0
        file(0, 0, false) 99
        file(0, 0, true) -1""");
    edge("of one below 0: 100 .. times as often added as it takes: a hundred times", """
        "set b 9999;sub a b;out a;set c 100;sub d c;out d;set c 101;sub e c;out e" 0
        does(0, 0, 0, 0) 1
        mend(0, 0, 0, 1, 4, -1) 2
        mend(0, 0, 0, 2, 4, -1) 2
        run(0, 2000) 0
        file(0, 0, false) 1
        file(0, 1, false) 0
        file(0, 2, false) 99""");
    edge("of one below 0: .. 10000 times", """
        "set b 1;sub a b;out a;set c 9999;sub d c;out d" 0
        does(0, 0, 0, 0) 1
        mend(0, 0, 0, 0, 4, -1) 2
        mend(0, 0, 0, 2, 4, -1) 2
        mend(0, 0, 0, 3, 4, -1) 2
        run(0, 2000) 0
        file(0, 0, false) 9999
        file(0, 1, false) 1""");
  }

  /** Who goes on to the last LINE writes a number. */
  private static void meant() {
    edge("MEANT: 1900 more, if it is no less than the PIVOT, else 2000 more", """
        "set a 49;set b 50;if b<a 4;end;out a" 0
        does(0, 0, 0, 0) 1
        run(0, 2000) 0
        programOf(0, 4) 0
        mend(0, 0, 0, 0, 2, 50) 2
        mend(0, 0, 0, 1, 2, 50) 2
        run(0, 2000) 0
        programOf(0, 4) 1
        mend(0, 0, 0, 0, 2, 49) 2
        run(0, 2000) 0
        programOf(0, 4) 0""");
    edge("MEANT: PIVOT 0: all are 1900 more", """
        "set a 0;set b 99;if a<b 4;end;out a" 0
        does(0, 0, 0, 0) 1
        mend(0, 0, 0, 0, 2, 0) 2
        mend(0, 0, 0, 1, 2, 0) 2
        run(0, 2000) 0
        programOf(0, 4) 1""");
    edge("MEANT: PIVOT 1: only 0 is 2000 more", """
        "set a 0;set b 99;if a<b 4;end;out a" 0
        does(0, 0, 0, 0) 1
        mend(0, 0, 0, 0, 2, 1) 2
        mend(0, 0, 0, 1, 2, 1) 2
        run(0, 2000) 0
        programOf(0, 4) 0""");
    edge("MEANT: PIVOT 100: all are 2000 more", """
        "set a 99;set b 0;if b<a 4;end;out a" 0
        does(0, 0, 0, 0) 1
        mend(0, 0, 0, 0, 2, 100) 2
        mend(0, 0, 0, 1, 2, 100) 2
        run(0, 2000) 0
        programOf(0, 4) 1""");
    edge("MEANT: else the number: no PIVOT, though the other has one", """
        "set a 99;set b 0;if a<b 4;end;out a" 0
        does(0, 0, 0, 0) 1
        mend(0, 0, 0, 1, 2, 0) 2
        run(0, 2000) 0
        programOf(0, 4) 1""");
    edge("MEANT: else the number: 4 DIGITS, though with a PIVOT", """
        "set a 99;set b 0;if a<b 4;end;out a" 0
        does(0, 0, 0, 0) 1
        mend(0, 0, 0, 0, 4, 0) 2
        mend(0, 0, 0, 1, 2, 0) 2
        run(0, 2000) 0
        programOf(0, 4) 1
        mend(0, 0, 0, 0, 2, 0) 2
        run(0, 2000) 0
        programOf(0, 4) 0""");
    edge("if F<G: alike is not below", """
        "set a 5;set b 5;if a<b 4;end;out a" 0
        run(0, 2000) 0
        programOf(0, 4) 0""");
    edge("if F=G: as MEANT, alike: by unlike numbers", """
        "set a 5;set b 1905;if a=b 4;end;out a" 0
        does(0, 0, 0, 0) 1
        mend(0, 0, 0, 1, 4, -1) 2
        run(0, 2000) 0
        programOf(0, 4) 0
        mend(0, 0, 0, 0, 2, 5) 2
        run(0, 2000) 0
        programOf(0, 4) 1
        mend(0, 0, 0, 0, 2, 6) 2
        run(0, 2000) 0
        programOf(0, 4) 0""");
    edge("13: a number (0 .. 99)", """
        meant(0, 50) 2000
        meant(99, 50) 1999
        meant(-1, 50) NONE
        meant(100, 50) NONE""");
    edge("13: a PIVOT (0 .. 100)", """
        meant(0, 0) 1900
        meant(99, 0) 1999
        meant(0, 100) 2000
        meant(99, 100) 2099
        meant(50, -1) NONE
        meant(50, 101) NONE""");
    edge("13: no less than the PIVOT", """
        meant(49, 50) 2049
        meant(50, 50) 1950
        meant(51, 50) 1951
        meant(0, 1) 2000
        meant(99, 99) 1999""");
  }

  private static void leaps() {
    edge("12: NONE: either: the YEAR", """
        leaps(1899, 0) NONE
        leaps(2100, 0) NONE
        leaps(1900, 0) 1
        leaps(2099, 0) 0
        leaps(2096, 0) 1""");
    edge("12: NONE: either: the RULE", """
        leaps(2000, -1) NONE
        leaps(2000, 3) NONE
        leaps(2000, 0) 1
        leaps(2000, 2) 1""");
    edge("RULE 0 each fourth", """
        leaps(1900, 0) 1
        leaps(1904, 0) 1
        leaps(1902, 0) 0
        leaps(2000, 0) 1""");
    edge("RULE 1 each fourth but hundredth ones", """
        leaps(1900, 1) 0
        leaps(1904, 1) 1
        leaps(1902, 1) 0
        leaps(2000, 1) 0""");
    edge("RULE 2 each fourth but hundredth ones, each four hundredth", """
        leaps(1900, 2) 0
        leaps(1904, 2) 1
        leaps(1902, 2) 0
        leaps(2000, 2) 1""");
    edge("leap F L: (1900 more, if it is below 100): 0 is 1900", """
        "leap a 2;end;out a" 0
        run(0, 2000) 0
        programOf(0, 4) 1
        does(0, 0, 0, 0) 1
        mendRule(0, 0, 0, 2) 2
        run(0, 2000) 0
        programOf(0, 4) 0
        mendRule(0, 0, 0, 1) 2
        run(0, 2000) 0
        programOf(0, 4) 0""");
    edge("leap F L: (1900 more, if it is below 100): 100 is 100", """
        "set a 100;leap a 3;end;out a" 0
        does(0, 0, 0, 0) 1
        mend(0, 0, 0, 0, 4, -1) 2
        run(0, 2000) 0
        programOf(0, 4) 1
        mendRule(0, 0, 0, 2) 2
        run(0, 2000) 0
        programOf(0, 4) 0""");
    edge("leap F L: as MEANT: 0 is 2000 by a PIVOT", """
        "leap a 2;end;out a" 0
        does(0, 0, 0, 0) 1
        mendRule(0, 0, 0, 2) 2
        mend(0, 0, 0, 0, 2, 1) 2
        run(0, 2000) 0
        programOf(0, 4) 1
        mend(0, 0, 0, 0, 2, 0) 2
        run(0, 2000) 0
        programOf(0, 4) 0""");
    edge("leap asks the number, by RULE 2: the TWIN's 0, 100, 400 and one below 0", """
        "leap a 2;end;out a" 0
        "set a 100;leap a 3;end;out a" 1
        "set a 400;leap a 3;end;out a" 2
        "set b 4;sub a b;leap a 4;end;out a" 3
        "set b 3;sub a b;leap a 4;end;out a" 4
        night(2000)
        programOf(0, 5) 1
        programOf(1, 5) 0
        programOf(2, 5) 1
        programOf(3, 5) 1
        programOf(4, 5) 0""");
  }

  private static void ends() {
    edge("a LINE that is not there ends the run: the first behind the last", """
        "go 1" 0
        run(0, 2000) 0
        done(0, 0) 1""");
    edge("a LINE that is not there ends the run: 99, by go, if and leap", """
        "go 99" 0
        "if a=a 99" 1
        "leap a 99;in a" 2
        run(0, 2000) 0
        run(1, 2000) 0
        run(2, 2000) 0
        done(2, 0) 1""");
    edge("behind the last LINE it ends", """
        "set a 1;set a 2" 0
        run(0, 2000) 0
        done(0, 0) 2""");
    edge("end ends it: the first of twelve", """
        "end;in a;in a;in a;in a;in a;in a;in a;in a;in a;in a;in a" 0
        run(0, 2000) 0
        done(0, 0) 1""");
    edge("STOPPED, at an in without a number left", """
        "in a;in a" 0
        shelve 0: 5 6
        run(0, 2000) 0
        shelve 0: 5
        run(0, 2000) 1
        done(0, 0) 2""");
    edge("STOPPED, at an in .. (or none such): an empty SHELF, an empty FILE", """
        "in a" 0
        "end" 1
        run(0, 2000) 1
        input(0, 1) NONE
        run(0, 2000) 1
        run(1, 2000) 0
        run(0, 2000) 1""");
    edge("STOPPED: .. an out with 12 numbers there", """
        "out a;out a;out a;out a;out a;out a;out a;out a;out a;out a;out a;out a" 0
        "out a;out a;out a;out a;out a;out a;out a;out a;out a;out a;out a;go 10" 1
        run(0, 2000) 0
        programOf(0, 4) 12
        run(1, 2000) 1
        programOf(1, 4) 12
        programOf(1, 5) 12
        file(1, 11, false) 0
        file(1, 12, false) -5""");
    edge("what was written ahead of where it STOPPED stays", """
        "set a 7;out a;in b;out a" 0
        run(0, 2000) 1
        programOf(0, 4) 1
        file(0, 0, false) 7""");
    edge("An INPUT that is a FILE is read .. from its first number on in each RUN", """
        "set a 5;out a" 0
        "in a;out a" 1
        input(1, 0) NONE
        run(0, 2000) 0
        run(1, 2000) 0
        run(1, 2000) 0
        file(1, 0, false) 5""");
    edge("what the PROGRAM wrote last", """
        "now a;out a" 0
        "in a;out a" 1
        input(1, 0) NONE
        run(1, 2000) 1
        run(0, 1901) 0
        run(0, 1902) 0
        run(1, 2000) 0
        file(1, 0, false) 2
        file(1, 0, true) 1902""");
  }

  /** 'set b 1;set c N;add a b;if a=c 5;go 2;' does 3 N + 1 LINES before LINE 5. */
  private static void loops() {
    edge("LOOPS: 150 LINES were done", """
        "go 0" 0
        run(0, 2000) 2
        done(0, 0) 150
        done(0, 1) 150
        programOf(0, 7) 2""");
    edge("149 LINES are no LOOP", """
        "set b 1;set c 49;add a b;if a=c 5;go 2;end" 0
        run(0, 2000) 0
        done(0, 0) 149""");
    edge("ended by the 150th LINE is no LOOP: by end", """
        "set b 1;set c 49;add a b;if a=c 5;go 2;set d 1;end" 0
        run(0, 2000) 0
        done(0, 0) 150""");
    edge("ended by the 150th LINE is no LOOP: behind the last", """
        "set b 1;set c 49;add a b;if a=c 5;go 2;set d 1;set d 2" 0
        run(0, 2000) 0
        done(0, 0) 150""");
    edge("STOPPED by the 150th LINE is no LOOP", """
        "set b 1;set c 49;add a b;if a=c 5;go 2;set d 1;in d" 0
        run(0, 2000) 1
        done(0, 0) 150""");
    edge("a 151st LINE is not done", """
        "set b 1;set c 49;add a b;if a=c 5;go 2;set d 1;set d 2;out d" 0
        run(0, 2000) 2
        done(0, 0) 150
        programOf(0, 4) 0""");
    edge("what the 150th LINE writes is written", """
        "set b 1;set c 49;add a b;if a=c 5;go 2;set d 1;out d;end" 0
        run(0, 2000) 2
        programOf(0, 4) 1""");
    edge("one LOOPS, its TWIN does not", """
        "now a;set b 1950;if a=b 2" 0
        does(0, 0, 0, 0) 1
        mend(0, 0, 0, 0, 2, 50) 2
        run(0, 1950) 0
        programOf(0, 7) 2
        done(0, 0) 3
        done(0, 1) 150
        programOf(0, 10) 1""");
  }

  /** 8192 doubled 18 times is 32 bits' lowest number, and 19 times 0. */
  private static void twins() {
    edge("numbers of 32 bits, wrapping: add", """
        "set a 8192;set b 17;set c 1;add a a;sub b c;if b=d 7;go 3;out a;add a a;out a;add a a;out a" 0
        run(0, 2000) 0
        file(0, 0, true) 1073741824
        file(0, 1, true) MIN
        file(0, 2, true) 0""");
    edge("numbers of 32 bits, wrapping: sub", """
        "set a 8192;set b 18;set c 1;add a a;sub b c;if b=d 7;go 3;sub a c;out a" 0
        run(0, 2000) 0
        file(0, 0, true) MAX""");
    edge("a RUN by which nothing is cut: what its FIELDS' DIGITS are does not matter", """
        "now a;out a;set b 12;sub b a;out b" 0
        run(0, 1999) 0
        file(0, 0, true) 1999
        file(0, 1, true) -1987""");
    edge("MEANT is the number: windows are not asked", """
        "set a 0;set b 99;if a<b 4;end;out a" 0
        does(0, 0, 0, 0) 1
        mend(0, 0, 0, 0, 2, 50) 2
        mend(0, 0, 0, 1, 2, 50) 2
        run(0, 2000) 0
        programOf(0, 4) 0
        programOf(0, 5) 1""");
    edge("its INPUT is the TWIN FILE of a PROGRAM, where the true one's is its FILE", """
        "now a;out a" 0
        "in b;out b" 1
        input(1, 0) NONE
        run(0, 1999) 0
        run(1, 2000) 0
        file(1, 0, false) 99
        file(1, 0, true) 1999""");
    edge("its INPUT is the SHELF, where the true one's is", """
        "in b;out b" 0
        shelve 0: 1999
        run(0, 2000) 0
        file(0, 0, false) 99
        file(0, 0, true) 1999""");
  }

  private static void fileAndDone() {
    edge("10: -5: none such: i", """
        "out a;out a" 0
        file(0, 0, false) -5
        run(0, 2000) 0
        file(0, 1, false) 0
        file(0, 2, false) -5
        file(0, -1, false) -5
        file(0, 1, true) 0
        file(0, 2, true) -5
        file(0, -1, true) -5
        file(0, MAX, true) -5
        file(0, MIN, false) -5""");
    edge("10: -5: none such: PROGRAM", """
        file(0, 0, false) -5
        "out a" 0
        run(0, 2000) 0
        file(1, 0, false) -5
        file(-1, 0, true) -5""");
    edge("11: -1 if none was made", """
        "end" 0
        done(0, 0) -1
        done(0, 1) -1
        done(0, 2) -1""");
    edge("11: -1 if none was made: as of one that became OFF", """
        "now a;out a" 0
        run(0, 2000) 0
        done(0, 0) 2
        done(0, 1) 2
        done(0, 2) 1
        does(0, 0, 0, 2) 5
        done(0, 0) -1
        done(0, 1) -1
        done(0, 2) -1""");
    edge("11: -5: none such", """
        "end" 0
        done(1, 0) -5
        done(-1, 0) -5
        done(0, 3) -5
        done(0, -1) -5
        run(0, 2000) 0
        done(0, 3) -5""");
  }

  private static void parts() {
    edge("PARTS: (-1: they do not)", """
        "set a 5;out a" 0
        run(0, 2000) 0
        done(0, 2) -1""");
    edge("PARTS: by it one goes on with another LINE", """
        "now a;set b 50;if a<b 4;go 4;out b" 0
        run(0, 2000) 0
        done(0, 2) 2
        programOf(0, 10) 0
        run(0, 1999) 0
        done(0, 2) -1""");
    edge("PARTS: or one ends otherwise: behind the last LINE, as the other goes on", """
        "now a;set b 50;if a<b 4;end" 0
        run(0, 2000) 0
        done(0, 2) 2
        programOf(0, 10) 0""");
    edge("PARTS: or one ends otherwise: at an in", """
        "now a;set b 50;if a<b 4;out b" 0
        "in a" 1
        input(1, 0) NONE
        run(0, 2000) 0
        run(1, 2000) 1
        programOf(1, 7) 0
        done(1, 2) 0
        programOf(1, 10) 1""");
    edge("PARTS: or an out that writes unlike numbers", """
        "now a;out b;out a" 0
        run(0, 2000) 0
        done(0, 2) 2""");
    edge("PARTS: the first LINE", """
        "now a;out a;out a;set b 50;if a<b 0" 0
        run(0, 2000) 1
        done(0, 2) 1""");
    edge("PARTS: LINE 0", """
        "in a" 0
        "now c;set d 50;if c<d 4;out d" 1
        input(0, 1) NONE
        run(1, 2000) 0
        run(0, 2000) 1
        done(0, 2) 0""");
    edge("PARTS: unlike numbers alone, in FIELDS, are none", """
        "now a;mov b a;add b a" 0
        run(0, 2000) 0
        done(0, 2) -1""");
    edge("PARTS: both end alike at one LINE: to LINES that are not there", """
        "now a;set b 50;if a<b 99" 0
        run(0, 2000) 0
        done(0, 2) -1""");
    edge("PARTS: both STOP alike at one LINE", """
        "in a" 0
        "out a;go 0" 1
        run(0, 2000) 1
        done(0, 2) -1
        run(1, 2000) 1
        done(1, 2) -1""");
    edge("PARTS: both LOOP", """
        "go 0" 0
        run(0, 2000) 2
        done(0, 2) -1""");
    edge("WRONG: END .. is not that of its TWIN, with like FILES", """
        "now a;set b 50;if a<b 4;in c" 0
        run(0, 2000) 0
        programOf(0, 7) 1
        programOf(0, 10) 1
        run(0, 1999) 1
        programOf(0, 10) 0""");
    edge("WRONG: .. or FILE .. is not: of another length, of another number", """
        "now a;set b 50;if a<b 4;out b" 0
        "now a;out a" 1
        run(0, 2000) 0
        programOf(0, 10) 1
        run(0, 1999) 0
        programOf(0, 10) 0
        run(1, 1999) 0
        programOf(1, 10) 1""");
  }

  private static void night() {
    edge("14: BAD: the YEAR (1900 .. 2099)", """
        "now a;out a" 0
        night(1899) BAD
        night(2100) BAD
        count(11) 0
        night(1900) 1
        file(0, 0, true) 1900
        night(2099) 1
        file(0, 0, true) 2099""");
    edge("14: of no PROGRAMS", """
        night(2000) 0
        count(11) 0""");
    edge("HARM: none is WRONG", """
        "end" 0
        set(0, 0, 99) 1
        night(2000) 0""");
    edge("HARM: WEIGHTS 0, 99", """
        "now a;out a" 0
        "now a;out a" 1
        set(0, 0, 0) 1
        night(2000) 1
        set(1, 0, 99) 1
        night(2000) 99
        count(5) 2""");
    edge("HARM: the most", """
        12 x "now a;out a"
        set(0, 0, 99)
        set(1, 0, 99)
        set(2, 0, 99)
        set(3, 0, 99)
        set(4, 0, 99)
        set(5, 0, 99)
        set(6, 0, 99)
        set(7, 0, 99)
        set(8, 0, 99)
        set(9, 0, 99)
        set(10, 0, 99)
        set(11, 0, 99)
        night(2000) 1188
        count(11) 12""");
    edge("all .. run .. by numbers: an earlier one reads the FILE of the NIGHT before", """
        "in a;out a" 0
        "now a;out a" 1
        "in a;out a" 2
        input(0, 1) NONE
        input(2, 1) NONE
        night(1901) 2
        programOf(0, 6) 1
        file(2, 0, true) 1901
        night(1902) 3
        file(0, 0, true) 1901
        file(2, 0, true) 1902""");
  }

  private static void off() {
    edge("all PROGRAMS that are not OFF run", """
        "end" 0
        "end" 1
        does(0, 0, 0, 2) 5
        night(2000) 1
        count(11) 1
        programOf(0, 6) -1
        programOf(1, 6) 0""");
    edge("HARM: .. and of OFF ones: once, though it was WRONG", """
        "now a;out a" 0
        set(0, 0, 7) 1
        night(2000) 7
        does(0, 0, 0, 2) 5
        run(0, 2000) 0
        programOf(0, 10) 1
        night(2000) 7
        set(0, 0, 0) 7
        night(2000) 0""");
    edge("all are OFF", """
        "end" 0
        "end" 1
        does(0, 0, 0, 2) 5
        does(1, 0, 0, 2) 5
        night(2000) 2
        count(11) 0""");
    edge("a FILE of an OFF one becomes empty in its turn, also its TWIN's", """
        "in a;out a" 0
        "now a;out a" 1
        "in a;out a" 2
        input(0, 1) NONE
        input(2, 1) NONE
        run(1, 1999) 0
        does(1, 0, 0, 2) 5
        programOf(1, 4) 1
        programOf(1, 5) 1
        night(2000) 2
        programOf(1, 4) 0
        programOf(1, 5) 0
        file(0, 0, true) 1999
        programOf(2, 6) 1
        programOf(2, 5) 0
        night(2000) 1
        programOf(0, 5) 0""");
    edge("One that becomes OFF has no RUN last made", """
        "now a;out a" 0
        run(0, 2000) 0
        count(5) 1
        does(0, 0, 0, 2) 5
        count(5) 0
        programOf(0, 6) -1
        does(0, 0, 0, 3) 0
        programOf(0, 6) -1
        programOf(0, 4) 1""");
    edge("a NIGHT takes one made since", """
        "now a;out a" 0
        does(0, 0, 0, 2) 5
        run(0, 2000) 0
        count(5) 1
        programOf(0, 7) 0
        night(2000) 1
        count(5) 0
        programOf(0, 6) -1
        programOf(0, 7) -1
        programOf(0, 10) 0
        done(0, 0) -1""");
    edge("a NIGHT that is refused takes none", """
        "now a;out a" 0
        does(0, 0, 0, 2) 5
        run(0, 2000) 0
        night(2100) BAD
        programOf(0, 6) 0
        programOf(0, 4) 1""");
  }

  private static void reach() {
    edge("15: NONE", """
        reach(0) NONE
        "end" 0
        reach(1) NONE
        reach(-1) NONE
        reach(0) 0""");
    edge("REACHED: those that read its FILE, or that of one that is REACHED: eleven, one by one", """
        12 x "end"
        input(1, 0)
        input(2, 1)
        input(3, 2)
        input(4, 3)
        input(5, 4)
        input(6, 5)
        input(7, 6)
        input(8, 7)
        input(9, 8)
        input(10, 9)
        input(11, 10)
        reach(0) 4094
        reach(10) 2048
        reach(11) 0""");
    edge("REACHED: told backwards", """
        12 x "end"
        input(10, 11)
        input(9, 10)
        input(8, 9)
        input(7, 8)
        input(6, 7)
        input(5, 6)
        input(4, 5)
        input(3, 4)
        input(2, 3)
        input(1, 2)
        input(0, 1)
        reach(11) 2047
        reach(0) 0""");
    edge("REACHED: by itself, round about", """
        "end" 0
        "end" 1
        "end" 2
        input(0, 1)
        input(1, 0)
        input(2, 1)
        reach(0) 7
        reach(1) 7
        reach(2) 0""");
  }

  private static void cross() {
    edge("CROSS: numbers 0 .. 99: all", """
        "out a" 0
        "in a" 1
        input(1, 0) NONE
        does(0, 0, 0, 0) 1
        mend(0, 0, 0, 0, 2, 0) 2
        cross(0, 1, 0) 100
        cross(0, 1, 1) 0""");
    edge("CROSS: only 0", """
        "out a" 0
        "in a" 1
        input(1, 0) NONE
        does(0, 0, 0, 0) 1
        does(1, 0, 0, 0) 1
        mend(0, 0, 0, 0, 2, 0) 2
        mend(1, 0, 0, 0, 2, 1) 2
        cross(0, 1, 0) 1
        cross(0, 1, 1) 0""");
    edge("CROSS: only 99", """
        "out a" 0
        "in a" 1
        input(1, 0) NONE
        does(0, 0, 0, 0) 1
        does(1, 0, 0, 0) 1
        mend(0, 0, 0, 0, 2, 99) 2
        mend(1, 0, 0, 0, 2, 100) 2
        cross(0, 1, 0) 1
        cross(0, 1, 1) 99""");
    edge("16: the least (1; -1)", """
        "out a" 0
        "in a" 1
        input(1, 0) NONE
        cross(0, 1, 0) 0
        cross(0, 1, 1) -1""");
    edge("CROSS: some out FIELD of the first with 2 DIGITS", """
        "out a" 0
        "in a" 1
        input(1, 0) NONE
        does(0, 0, 0, 0) 1
        mend(0, 0, 0, 0, 4, 50) 2
        cross(0, 1, 0) 0
        mend(0, 0, 0, 0, 2, 50) 2
        cross(0, 1, 0) 100""");
    edge("CROSS: some in FIELD of the second with 2 DIGITS", """
        "out a" 0
        "in a" 1
        input(1, 0) NONE
        does(1, 0, 0, 0) 1
        mend(1, 0, 0, 0, 4, 50) 2
        cross(0, 1, 0) 0
        mend(1, 0, 0, 0, 2, 50) 2
        cross(0, 1, 0) 100""");
    edge("CROSS: no out, no in at all", """
        "in a" 0
        "out a" 1
        input(1, 0) NONE
        does(0, 0, 0, 0) 1
        mend(0, 0, 0, 0, 2, 50) 2
        cross(0, 1, 0) 0
        cross(0, 1, 1) -1""");
    edge("16: NONE: what", """
        "out a" 0
        "in a" 1
        input(1, 0) NONE
        cross(0, 1, 2) NONE
        cross(0, 1, -1) NONE""");
    edge("16: NONE: the second's INPUT is not the first's FILE", """
        "out a" 0
        "in a" 1
        cross(0, 1, 0) NONE
        cross(-1, 1, 0) NONE
        cross(2, 1, 0) NONE
        cross(0, 2, 0) NONE
        cross(0, -1, 0) NONE
        input(1, 0) NONE
        cross(0, 1, 0) 0
        cross(1, 0, 0) NONE""");
  }
}
