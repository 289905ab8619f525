/** The sentences of promises 28 to 35, and of the terms they use, that name a boundary: one run of calls each. */
public final class EdgesOfNightsTest {
  private static final Check check = new Check("EdgesOfNightsTest");

  private EdgesOfNightsTest() {
  }

  public static void main(String[] args) {
    told();
    shows();
    cover();
    first();
    firstFiles();
    firstRefusals();
    beside();
    stops();
    inTime();
    met();
    hands();
    check.finish();
  }

  private static void edge(String sentence, String calls) {
    Script.run(check, sentence, calls);
  }

  private static void told() {
    edge("TESTS are YEARS told (8 at most); FULL", """
        testYear(2000) 0
        6 x testYear(2000)
        testYear(2000) 7
        testYear(2000) FULL
        count(8) 8""");
    edge("28: BAD: a YEAR (1900 .. 2099)", """
        testYear(1899) BAD
        testYear(2100) BAD
        count(8) 0
        testYear(1900) 0
        testYear(2099) 1""");
    edge("28: BAD, then FULL", """
        8 x testYear(2000)
        testYear(2100) BAD""");
    edge("FAULTS told (8 at most); FULL", """
        "end" 0
        fault(0, 0, 2, 0) 0
        6 x fault(0, 0, 2, 0)
        fault(0, 0, 2, 0) 7
        fault(0, 0, 2, 0) FULL
        count(9) 8""");
    edge("29: NONE: PROGRAM, FIELD", """
        fault(0, 0, 2, 0) NONE
        "end" 0
        fault(1, 0, 2, 0) NONE
        fault(-1, 0, 2, 0) NONE
        fault(0, 6, 2, 0) NONE
        fault(0, -1, 2, 0) NONE
        fault(0, 0, 2, 0) 0
        fault(0, 5, 2, 0) 1""");
    edge("29: BAD: DIGITS (2 or 4)", """
        "end" 0
        fault(0, 0, 1, 0) BAD
        fault(0, 0, 3, 0) BAD
        fault(0, 0, 5, 0) BAD
        count(9) 0
        fault(0, 0, 2, 0) 0
        fault(0, 0, 4, 0) 1""");
    edge("29: BAD: a PIVOT (0 .. 100) or none", """
        "end" 0
        fault(0, 0, 2, -2) BAD
        fault(0, 0, 2, 101) BAD
        count(9) 0
        fault(0, 0, 2, NONE) 0
        fault(0, 0, 2, 0) 1
        fault(0, 0, 2, 100) 2""");
    edge("29: NONE, then BAD, then FULL", """
        "end" 0
        fault(1, 0, 3, 0) NONE
        fault(0, 6, 2, 101) NONE
        8 x fault(0, 0, 2, 0)
        fault(0, 0, 3, 0) BAD
        fault(0, 6, 2, 0) NONE""");
  }

  private static void shows() {
    edge("30: NONE", """
        shows(0, 0) NONE
        "end" 0
        testYear(2000) 0
        shows(0, 0) NONE
        fault(0, 0, 4, 0) 0
        shows(0, 0) 0
        shows(1, 0) NONE
        shows(-1, 0) NONE
        shows(0, 1) NONE
        shows(0, -1) NONE""");
    edge("shows .. FILE or END: by FILE alone", """
        "now a;out a" 0
        testYear(2000) 0
        fault(0, 0, 4, -1) 0
        shows(0, 0) 1""");
    edge("shows .. FILE or END: by END alone", """
        "now a;set b 50;if a<b 4;in c" 0
        testYear(2000) 0
        testYear(1999) 1
        fault(0, 0, 4, -1) 0
        shows(0, 0) 1
        shows(1, 0) 0""");
    edge("shows: a FAULT that is as it is shows in none", """
        "now a;out a" 0
        testYear(2000) 0
        fault(0, 0, 2, -1) 0
        shows(0, 0) 0""");
    edge("shows: as it is: once the PROGRAM is mended so, the FAULT is none", """
        "now a;out a" 0
        testYear(2000) 0
        fault(0, 0, 4, -1) 0
        shows(0, 0) 1
        does(0, 0, 0, 0) 1
        mend(0, 0, 0, 0, 4, -1) 2
        shows(0, 0) 0""");
    edge("shows: with one FIELD's: the others, and the RULE, are as they are", """
        "now a;now b;leap b 4;end;out a" 0
        testYear(2000) 0
        testYear(2001) 1
        fault(0, 0, 4, -1) 0
        shows(0, 0) 1
        shows(1, 0) 0
        does(0, 0, 0, 0) 1
        mendRule(0, 0, 0, 2) 2
        shows(0, 0) 0
        mend(0, 0, 0, 1, 4, -1) 2
        shows(0, 0) 1""");
    edge("a PROGRAM with one FIELD's DIGITS and PIVOT otherwise: by the PIVOT told", """
        "now a;set b 50;if a<b 4;end;out b" 0
        does(0, 0, 0, 0) 1
        mend(0, 0, 0, 0, 2, 50) 2
        mend(0, 0, 0, 1, 2, 50) 2
        testYear(2029) 0
        testYear(2030) 1
        testYear(2049) 2
        testYear(2050) 3
        testYear(1929) 4
        fault(0, 0, 2, 30) 0
        fault(0, 0, 4, 30) 1
        shows(0, 0) 0
        shows(1, 0) 1
        shows(2, 0) 1
        shows(3, 0) 0
        shows(0, 1) 0
        shows(4, 1) 1""");
    edge("shows: (INPUTS as they are)", """
        "in a;out a" 0
        testYear(2000) 0
        fault(0, 0, 4, -1) 0
        shows(0, 0) 0
        shelve 0: 99
        shows(0, 0) 0
        shelve 0: 100
        shows(0, 0) 1""");
  }

  private static void cover() {
    edge("31: of no TESTS, no FAULTS", """
        cover(0) 0
        cover(1) 0
        testYear(2000) 0
        cover(0) 0
        cover(1) 0""");
    edge("31: of FAULTS without a TEST", """
        "now a;out a" 0
        fault(0, 0, 4, -1) 0
        cover(0) 0
        cover(1) 0""");
    edge("that show all FAULTS that some TEST shows: none shows any", """
        "end" 0
        testYear(2000) 0
        fault(0, 0, 4, -1) 0
        cover(0) 0
        cover(1) 0""");
    edge("as bits; of several the least", """
        "now a;out a" 0
        fault(0, 0, 4, -1) 0
        testYear(2000) 0
        testYear(2001) 1
        testYear(2002) 2
        cover(0) 1
        cover(1) 1""");
    edge("as bits: only the last of eight shows it", """
        "now a;set b 2000;if a=b 4;end;out a" 0
        does(0, 0, 0, 0) 1
        mend(0, 0, 0, 1, 4, -1) 2
        fault(0, 0, 4, -1) 0
        7 x testYear(1999)
        testYear(2000) 7
        cover(0) 128
        cover(1) 1""");
    edge("all of eight are needed", """
        "now a;if a=b 3;end;out a" 0
        "now a;set b 1;if a=b 4;end;out a" 1
        "now a;set b 2;if a=b 4;end;out a" 2
        "now a;set b 3;if a=b 4;end;out a" 3
        "now a;set b 4;if a=b 4;end;out a" 4
        "now a;set b 5;if a=b 4;end;out a" 5
        "now a;set b 6;if a=b 4;end;out a" 6
        "now a;set b 7;if a=b 4;end;out a" 7
        testYear(2000) 0
        testYear(2001) 1
        testYear(2002) 2
        testYear(2003) 3
        testYear(2004) 4
        testYear(2005) 5
        testYear(2006) 6
        testYear(2007) 7
        fault(0, 0, 4, -1) 0
        fault(1, 0, 4, -1) 1
        fault(2, 0, 4, -1) 2
        fault(3, 0, 4, -1) 3
        fault(4, 0, 4, -1) 4
        fault(5, 0, 4, -1) 5
        fault(6, 0, 4, -1) 6
        fault(7, 0, 4, -1) 7
        cover(0) 255
        cover(1) 8""");
    edge("FEWEST TESTS: one of greater bits ahead of two of less", """
        "now a;set b 1;if a=b 6;set b 3;if a=b 6;end;out a" 0
        "now a;set b 2;if a=b 6;set b 3;if a=b 6;end;out a" 1
        fault(0, 0, 4, -1) 0
        fault(1, 0, 4, -1) 1
        testYear(2001) 0
        testYear(2002) 1
        cover(0) 3
        testYear(2003) 2
        cover(0) 4
        cover(1) 2""");
    edge("31: NONE", """
        cover(2) NONE
        cover(-1) NONE""");
  }

  private static void first() {
    edge("FIRST: of sets .. the empty one, too", """
        "now a;out a" 0
        first(0, 999, 2000, 0) 1
        first(0, 999, 2000, 1) 0
        first(0, 999, 2000, 2) 0""");
    edge("FIRST: of no PROGRAMS", """
        first(0, 0, 2000, 0) 0
        first(1, 0, 2000, 0) NONE""");
    edge("that take no more than told DAYS together: just so many", """
        "now a;out a" 0
        "now a;out a" 1
        set(0, 1, 3) 1
        set(1, 1, 4) 1
        first(3, 7, 2000, 0) 0
        first(3, 7, 2000, 1) 3
        first(3, 7, 2000, 2) 7
        first(3, 6, 2000, 0) 1
        first(3, 6, 2000, 1) 1
        first(3, 6, 2000, 2) 3
        first(3, 2, 2000, 1) 0
        first(3, 2, 2000, 0) 2""");
    edge("told DAYS 0: those that take none", """
        "now a;out a" 0
        "now a;out a" 1
        set(1, 1, 0) 1
        first(3, 0, 2000, 0) 1
        first(3, 0, 2000, 1) 2
        first(3, 0, 2000, 2) 0""");
    edge("of several the fewest DAYS", """
        "now a;out a" 0
        "now a;out a" 1
        set(0, 1, 3) 1
        set(1, 1, 2) 1
        first(3, 3, 2000, 1) 2
        first(3, 3, 2000, 2) 2""");
    edge("of several the fewest DAYS: none are mended where that helps nobody", """
        "end" 0
        "end" 1
        first(3, 999, 2000, 0) 0
        first(3, 999, 2000, 1) 0
        first(3, 999, 2000, 2) 0""");
    edge("then the least bits", """
        "now a;out a" 0
        "now a;out a" 1
        first(3, 1, 2000, 1) 1
        set(0, 1, 0) 1
        set(1, 1, 0) 1
        set(0, 0, 0) 1
        first(3, 1, 2000, 1) 2
        set(1, 0, 0) 1
        first(3, 1, 2000, 1) 0""");
    edge("HARM .. is least: WEIGHT ahead of DAYS", """
        "now a;out a" 0
        "now a;out a" 1
        set(0, 0, 2) 1
        set(0, 1, 9) 1
        first(3, 9, 2000, 0) 1
        first(3, 9, 2000, 1) 1
        first(3, 9, 2000, 2) 9""");
    edge("told PROGRAMS: others are not mended", """
        "now a;out a" 0
        "now a;out a" 1
        first(2, 999, 2000, 0) 1
        first(2, 999, 2000, 1) 2""");
    edge("those that are mended already are not WRONG", """
        "now a;out a" 0
        "now a;out a" 1
        does(0, 0, 0, 0) 1
        mend(0, 0, 0, 0, 4, -1) 2
        first(3, 999, 2000, 0) 0
        first(3, 999, 2000, 1) 2
        first(1, 999, 2000, 0) 1
        first(1, 999, 2000, 1) 0
        first(2, 0, 2000, 0) 1""");
  }

  private static void firstFiles() {
    edge("with their FILES as those of the TWINS: a later one reads what the TWIN wrote", """
        "now a;out a" 0
        "in b;set c 1950;if c<b 4;end;out c" 1
        input(1, 0) NONE
        does(1, 0, 0, 0) 1
        mend(1, 0, 0, 1, 4, -1) 2
        mend(1, 0, 0, 2, 4, -1) 2
        first(0, 9, 2000, 0) 2
        first(1, 9, 2000, 0) 0
        first(1, 9, 2000, 1) 1""");
    edge("with their FILES as those of the TWINS: an earlier one, too, reads a TWIN's of now", """
        "in b" 0
        "now c;set d 50;if c<d 4;out d" 1
        input(0, 1) NONE
        run(1, 2000) 0
        first(0, 9, 2000, 0) 2
        first(2, 9, 2000, 0) 0
        first(2, 9, 2000, 1) 2""");
    edge("an OFF one is HARM, and nobody reads from it, in the set or not", """
        "now a;out a" 0
        "in b;out b" 1
        input(1, 0) NONE
        run(0, 1999) 0
        does(0, 0, 0, 2) 5
        first(3, 999, 1999, 0) 1
        first(3, 999, 1999, 1) 0
        set(0, 0, 0) 1
        first(1, 999, 1999, 0) 0
        programOf(0, 4) 1""");
    edge("an OFF one's FILE is read by an earlier one as it is now", """
        "in b;out b" 0
        "now a;out a" 1
        input(0, 1) NONE
        run(1, 1999) 0
        does(1, 0, 0, 2) 5
        first(1, 0, 1999, 0) 2
        first(1, 1, 1999, 0) 1
        first(2, 1, 1999, 0) 2""");
    edge("an OFF one's FILE, and its TWIN's, are empty in its turn: whatever was thought of before", """
        "now a;out a" 0
        "in b;out b" 1
        input(1, 0) NONE
        beside(1999) 2
        first(3, 0, 1999, 0) 2
        does(0, 0, 0, 2) 5
        first(3, 0, 1999, 0) 1
        beside(1999) 2
        first(2, 9, 1999, 0) 1
        first(2, 9, 1999, 1) 0""");
    edge("FIRST is only thought of: no RUN, no FILE is another one", """
        "now a;out a" 0
        run(0, 1905) 0
        first(1, 0, 1999, 0) 1
        first(1, 1, 1999, 0) 0
        file(0, 0, false) 5
        file(0, 0, true) 1905
        count(11) 1
        done(0, 2) 1""");
  }

  private static void firstRefusals() {
    edge("32: NONE: a bit of none", """
        "end" 0
        "end" 1
        first(4, 0, 2000, 0) NONE
        first(5, 0, 2000, 0) NONE
        first(-1, 0, 2000, 0) NONE
        first(MIN, 0, 2000, 0) NONE
        first(MAX, 0, 2000, 0) NONE
        first(3, 0, 2000, 0) 0""");
    edge("32: NONE: a bit of none: of twelve", """
        12 x "now a;out a"
        first(4096, 0, 2000, 0) NONE
        first(2048, 999, 2000, 0) 11
        first(2048, 999, 2000, 1) 2048""");
    edge("32: NONE: what", """
        "end" 0
        first(1, 0, 2000, 3) NONE
        first(1, 0, 2000, -1) NONE""");
    edge("a set, 8 at most; BAD: more than 8", """
        12 x "now a;out a"
        first(255, 999, 2000, 0) 4
        first(511, 999, 2000, 0) BAD
        first(4080, 999, 2000, 0) 4
        first(4095, 999, 2000, 0) BAD""");
    edge("32: BAD: days (0 .. 999)", """
        "end" 0
        first(1, -1, 2000, 0) BAD
        first(1, 1000, 2000, 0) BAD
        first(1, 0, 2000, 0) 0
        first(1, 999, 2000, 0) 0""");
    edge("32: BAD: the YEAR (1900 .. 2099)", """
        "now a;out a" 0
        first(1, 0, 1899, 0) BAD
        first(1, 0, 2100, 0) BAD
        first(1, 0, 1900, 0) 1
        first(1, 0, 2099, 0) 1""");
    edge("32: NONE, then BAD", """
        "end" 0
        first(2, 1000, 2100, 0) NONE
        first(1, 1000, 2100, 3) NONE
        first(1023, -1, 2000, 0) NONE""");
  }

  private static void beside() {
    edge("33: BAD: the YEAR (1900 .. 2099)", """
        "now a;out a" 0
        beside(1899) BAD
        beside(2100) BAD
        beside(1900) 1
        beside(2099) 1""");
    edge("BESIDE: of no PROGRAMS", """
        beside(2000) 0""");
    edge("all PROGRAMS with 2 DIGITS", """
        "now a;out a" 0
        does(0, 0, 0, 0) 1
        mend(0, 0, 0, 0, 4, -1) 2
        beside(2000) 1
        night(2000) 0""");
    edge("no PIVOT", """
        "now a;set b 50;if a<b 4;end;out b" 0
        does(0, 0, 0, 0) 1
        mend(0, 0, 0, 0, 2, 50) 2
        mend(0, 0, 0, 1, 2, 50) 2
        beside(1999) 0
        night(1999) 0
        beside(2000) 1""");
    edge("RULE 0", """
        "now a;leap a 3;end;out b" 0
        does(0, 0, 0, 0) 1
        mendRule(0, 0, 0, 1) 2
        beside(2000) 0
        night(2000) 1""");
    edge("none OFF: one that is not WRONG is no HARM, and its FILE is read", """
        "set a 5;out a" 0
        "in b;out b" 1
        input(1, 0) NONE
        does(0, 0, 0, 2) 5
        beside(2000) 0
        night(2000) 1""");
    edge("none OFF: one that is WRONG is HARM by its WEIGHT, once", """
        "now a;out a" 0
        set(0, 0, 9) 1
        does(0, 0, 0, 2) 5
        beside(2000) 9""");
    edge("FILES at its beginning as they are now", """
        "in b;out b" 0
        "set a 100;out a" 1
        input(0, 1) NONE
        beside(2000) 1
        run(1, 2000) 0
        beside(2000) 2
        does(1, 0, 0, 0) 1
        mend(1, 0, 0, 0, 4, -1) 2
        run(1, 2000) 0
        beside(2000) 2
        does(0, 0, 0, 0) 1
        mend(0, 0, 0, 1, 4, -1) 2
        night(2000) 0
        beside(2000) 2""");
    edge("FILES .. as they are now: those of an OFF one that a NIGHT has emptied", """
        "in b;out b" 0
        "now a;out a" 1
        input(0, 1) NONE
        run(1, 2000) 0
        beside(2000) 2
        does(1, 0, 0, 2) 5
        beside(2000) 2
        night(2000) 2
        beside(2000) 1""");
    edge("BESIDE is only thought of", """
        "now a;out a" 0
        does(0, 0, 0, 0) 1
        mend(0, 0, 0, 0, 4, 7) 2
        run(0, 1905) 0
        beside(1999) 1
        file(0, 0, false) 1905
        count(11) 1
        field(0, 0, 0) 4
        field(0, 0, 1) 7""");
  }

  private static void stops() {
    edge("STOPS 0 .. 7, as they come; FULL", """
        stop(0, 0, 1, 0) 0
        6 x stop(0, 0, 1, 0)
        stop(0, 0, 1, 0) 7
        stop(0, 0, 1, 0) FULL
        count(13) 8""");
    edge("a PLACE (0 .. 99)", """
        stop(-1, 99, 1, 1) BAD
        stop(100, 100, 1, 1) BAD
        count(13) 0
        stop(0, 99, 1, 1) 0
        stop(99, 99, 1, 1) 1""");
    edge("the MINUTE (0 .. 899)", """
        stop(0, -1, 1, 1) BAD
        stop(0, 900, 1, 1) BAD
        count(13) 0
        stop(0, 0, 1, 1) 0
        stop(0, 899, 1, 1) 1
        posts(1, 1) 3""");
    edge("how LONG (1 .. 99 MINUTES)", """
        stop(0, 0, 0, 1) BAD
        stop(0, 0, 100, 1) BAD
        count(13) 0
        stop(0, 0, 1, 1) 0
        stop(0, 0, 99, 1) 1""");
    edge("a WEIGHT (0 .. 99)", """
        stop(0, 0, 1, -1) BAD
        stop(0, 0, 1, 100) BAD
        count(13) 0
        stop(0, 0, 1, 0) 0
        stop(0, 0, 1, 99) 1
        posts(1, 0) 99""");
    edge("34: BAD, then FULL", """
        8 x stop(0, 0, 1, 0)
        stop(100, 0, 1, 0) BAD
        stop(0, 0, 0, 0) BAD""");
  }

  private static void inTime() {
    edge("HANDS .. are at PLACE 0 in MINUTE 0, and go a PLACE a MINUTE", """
        stop(0, 0, 1, 1) 0
        stop(10, 9, 1, 1) 1
        posts(3, 1) 1
        stop(10, 10, 1, 1) 2
        posts(3, 1) 5""");
    edge("it must come from the one ahead, when that is over, in time", """
        stop(5, 10, 7, 1) 0
        stop(8, 19, 1, 1) 1
        posts(1, 1) 1
        posts(2, 1) 3
        stop(8, 20, 1, 1) 2
        posts(1, 1) 5""");
    edge("in time: back again, to a lesser PLACE", """
        stop(8, 10, 7, 1) 0
        stop(5, 19, 1, 1) 1
        posts(1, 1) 1
        stop(5, 20, 1, 1) 2
        posts(1, 1) 5""");
    edge("in time: at one PLACE, as soon as it is over", """
        stop(0, 10, 5, 1) 0
        stop(0, 14, 1, 1) 1
        posts(1, 1) 1
        stop(0, 15, 1, 1) 2
        posts(1, 1) 5""");
    edge("the last PLACE, the last MINUTE, the LONGEST", """
        stop(99, 99, 99, 50) 0
        stop(99, 899, 99, 50) 1
        stop(0, 297, 99, 50) 2
        posts(1, 0) 150
        posts(1, 1) 7""");
    edge("in the order of their MINUTES, not of their numbers", """
        stop(0, 30, 1, 1) 0
        stop(0, 20, 1, 1) 1
        stop(0, 10, 1, 1) 2
        posts(1, 1) 7""");
    edge("of like MINUTES one HAND meets one", """
        stop(0, 5, 1, 1) 0
        stop(0, 5, 1, 1) 1
        posts(1, 1) 1
        posts(2, 1) 3""");
  }

  private static void met() {
    edge("MET: of no STOPS", """
        posts(1, 0) 0
        posts(1, 1) 0
        posts(3, 4) 0""");
    edge("MET: none can be met", """
        stop(1, 0, 1, 9) 0
        posts(3, 0) 0
        posts(3, 1) 0
        posts(3, 2) 0""");
    edge("MET: of several the least as bits: one of no WEIGHT is not met", """
        stop(0, 0, 1, 0) 0
        stop(0, 9, 1, 3) 1
        posts(1, 0) 3
        posts(1, 1) 2
        posts(3, 1) 2""");
    edge("MET: of several the least as bits: of like WEIGHTS", """
        stop(0, 5, 1, 4) 0
        stop(0, 5, 1, 2) 1
        stop(0, 5, 1, 4) 2
        stop(0, 5, 1, 6) 3
        posts(1, 1) 8
        posts(2, 1) 9
        posts(2, 0) 10""");
    edge("MET: of the greatest WEIGHT: one dear ahead of two cheap", """
        stop(0, 5, 1, 4) 0
        stop(0, 10, 1, 4) 1
        stop(0, 4, 20, 9) 2
        posts(1, 0) 9
        posts(1, 1) 4""");
    edge("MET: all eight", """
        stop(0, 10, 1, 1) 0
        stop(0, 20, 1, 1) 1
        stop(0, 30, 1, 1) 2
        stop(0, 40, 1, 1) 3
        stop(0, 50, 1, 1) 4
        stop(0, 60, 1, 1) 5
        stop(0, 70, 1, 1) 6
        stop(0, 80, 1, 1) 7
        posts(1, 0) 8
        posts(1, 1) 255
        posts(1, 2) 255""");
  }

  private static void hands() {
    edge("HANDS (1 .. 3): BAD", """
        posts(0, 0) BAD
        posts(4, 0) BAD
        posts(-1, 0) BAD
        posts(1, 0) 0
        posts(3, 0) 0""");
    edge("35: NONE: what (0 .. 4)", """
        posts(3, 5) NONE
        posts(3, -1) NONE
        posts(3, 4) 0""");
    edge("35: NONE: no such HAND", """
        posts(1, 3) NONE
        posts(1, 4) NONE
        posts(2, 4) NONE
        posts(1, 2) 0
        posts(2, 3) 0
        posts(3, 4) 0""");
    edge("35: NONE: what, then BAD: HANDS, then NONE: no such HAND", """
        posts(0, 5) NONE
        posts(4, -1) NONE
        posts(0, 4) BAD
        posts(0, 2) BAD""");
    edge("The first HAND meets of it the greatest set (as bits) that it can, .. so the next one", """
        4 x stop(0, 5, 1, 1)
        posts(3, 1) 7
        posts(3, 2) 4
        posts(3, 3) 2
        posts(3, 4) 1""");
    edge("such that the others can meet the rest", """
        stop(0, 15, 1, 1) 0
        stop(9, 10, 1, 1) 1
        stop(0, 10, 1, 1) 2
        stop(5, 16, 1, 1) 3
        posts(2, 1) 15
        posts(2, 2) 10
        posts(2, 3) 5
        posts(3, 2) 12
        posts(3, 3) 2
        posts(3, 4) 1""");
    edge("nothing is left for the next HANDS", """
        stop(0, 10, 1, 1) 0
        posts(3, 2) 1
        posts(3, 3) 0
        posts(3, 4) 0""");
  }
}
