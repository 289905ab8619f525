/** The sentences of promises 17 to 27, and of the terms they use, that name a boundary: one run of calls each. */
public final class EdgesOfStatesTest {
  private static final Check check = new Check("EdgesOfStatesTest");

  private EdgesOfStatesTest() {
  }

  public static void main(String[] args) {
    handsAndDays();
    states();
    offAndBack();
    doesRefusals();
    mend();
    mendRule();
    test();
    book();
    breaks();
    chips();
    asked();
    fits();
    papers();
    knew();
    check.finish();
  }

  private static void edge(String sentence, String calls) {
    Script.run(check, sentence, calls);
  }

  private static void handsAndDays() {
    edge("told by a HAND 0 .. 7: does", """
        "end" 0
        does(0, -1, 0, 0) NONE
        does(0, 8, 0, 0) NONE
        does(0, 0, 0, 0) 1
        does(0, 7, 0, 2) 5""");
    edge("told by a HAND 0 .. 7: mend", """
        "end" 0
        does(0, 0, 0, 0) 1
        mend(0, -1, 0, 0, 2, 0) NONE
        mend(0, 8, 0, 0, 2, 0) NONE
        mend(0, 0, 0, 0, 2, 0) 2
        mend(0, 7, 0, 0, 2, 0) 2""");
    edge("told by a HAND 0 .. 7: mendRule", """
        "end" 0
        does(0, 0, 0, 0) 1
        mendRule(0, -1, 0, 1) NONE
        mendRule(0, 8, 0, 1) NONE
        mendRule(0, 0, 0, 1) 2
        mendRule(0, 7, 0, 1) 2""");
    edge("told by a HAND 0 .. 7: test", """
        "now a;out a" 0
        does(0, 0, 0, 0) 1
        mendRule(0, 0, 0, 1) 2
        test(0, -1, 0, 2000) NONE
        test(0, 8, 0, 2000) NONE
        test(0, 0, 0, 2000) 2
        test(0, 7, 0, 2000) 2""");
    edge("on a DAY (0 .. 999): does", """
        "end" 0
        does(0, 0, -1, 0) BAD
        does(0, 0, 1000, 0) BAD
        does(0, 0, 0, 0) 1
        does(0, 0, 999, 2) 5""");
    edge("on a DAY (0 .. 999): mend", """
        "end" 0
        does(0, 0, 0, 0) 1
        mend(0, 0, -1, 0, 2, 0) BAD
        mend(0, 0, 1000, 0, 2, 0) BAD
        mend(0, 0, 0, 0, 2, 0) 2
        mend(0, 0, 999, 0, 2, 0) 2""");
    edge("on a DAY (0 .. 999): mendRule", """
        "end" 0
        does(0, 0, 0, 0) 1
        mendRule(0, 0, -1, 1) BAD
        mendRule(0, 0, 1000, 1) BAD
        mendRule(0, 0, 0, 1) 2
        mendRule(0, 0, 999, 1) 2""");
    edge("on a DAY (0 .. 999): test", """
        "now a;out a" 0
        does(0, 0, 0, 0) 1
        mendRule(0, 0, 0, 1) 2
        test(0, 0, -1, 2000) BAD
        test(0, 0, 1000, 2000) BAD
        test(0, 0, 0, 2000) 2
        test(0, 0, 999, 2000) 2""");
    edge("a DAY may be ahead of the one told before", """
        "end" 0
        does(0, 0, 999, 0) 1
        does(0, 0, 0, 2) 5
        book(1, 2) 0""");
  }

  private static void states() {
    edge("Reading: 0 to 1: from no other", """
        "end" 0
        does(0, 0, 0, 0) 1
        does(0, 0, 0, 0) STATE
        mendRule(0, 0, 0, 0) 2
        does(0, 0, 0, 0) STATE
        test(0, 0, 0, 2000) 3
        does(0, 0, 0, 0) STATE
        does(0, 0, 0, 1) 4
        does(0, 0, 0, 0) STATE
        does(0, 0, 0, 2) 5
        does(0, 0, 0, 0) STATE
        programOf(0, 0) 5""");
    edge("Mending: 1, 2, 3 to 2: from no other", """
        "end" 0
        mend(0, 0, 0, 0, 2, 5) STATE
        mendRule(0, 0, 0, 1) STATE
        does(0, 0, 0, 0) 1
        mend(0, 0, 0, 0, 2, 5) 2
        mend(0, 0, 0, 0, 2, 6) 2
        test(0, 0, 0, 2000) 3
        mendRule(0, 0, 0, 1) 2
        test(0, 0, 0, 2000) 3
        does(0, 0, 0, 1) 4
        mend(0, 0, 0, 0, 2, 7) STATE
        mendRule(0, 0, 0, 2) STATE
        does(0, 0, 0, 2) 5
        mend(0, 0, 0, 0, 2, 8) STATE
        mendRule(0, 0, 0, 0) STATE
        field(0, 0, 1) 6
        programOf(0, 2) 1""");
    edge("Mending: (.. are told otherwise): as they were, too", """
        "end" 0
        does(0, 0, 0, 0) 1
        mend(0, 0, 0, 0, 2, NONE) 2
        test(0, 0, 0, 2000) 3
        mendRule(0, 0, 0, 0) 2""");
    edge("tested: 2 to 3: from no other", """
        "end" 0
        test(0, 0, 0, 2000) STATE
        does(0, 0, 0, 0) 1
        test(0, 0, 0, 2000) STATE
        mendRule(0, 0, 0, 0) 2
        test(0, 0, 0, 2000) 3
        test(0, 0, 0, 2000) STATE
        does(0, 0, 0, 1) 4
        test(0, 0, 0, 2000) STATE
        does(0, 0, 0, 2) 5
        test(0, 0, 0, 2000) STATE
        count(11) 1""");
    edge("tested: if it is not WRONG, else it stays", """
        "now a;out a" 0
        does(0, 0, 0, 0) 1
        mend(0, 0, 0, 0, 2, 50) 2
        test(0, 0, 0, 1999) 2
        programOf(0, 0) 2
        programOf(0, 10) 1
        mend(0, 0, 0, 0, 4, 50) 2
        test(0, 0, 0, 1999) 3
        programOf(0, 10) 0""");
    edge("in use: 3 to 4: from no other", """
        "end" 0
        does(0, 0, 0, 1) STATE
        does(0, 0, 0, 0) 1
        does(0, 0, 0, 1) STATE
        mendRule(0, 0, 0, 0) 2
        does(0, 0, 0, 1) STATE
        test(0, 0, 0, 2000) 3
        does(0, 0, 0, 1) 4
        does(0, 0, 0, 1) STATE
        does(0, 0, 0, 2) 5
        does(0, 0, 0, 1) STATE
        count(3) 0""");
  }

  private static void offAndBack() {
    edge("OFF: from any, back to what it was: unread", """
        "end" 0
        does(0, 0, 0, 2) 5
        does(0, 0, 0, 3) 0""");
    edge("OFF: from any, back to what it was: read", """
        "end" 0
        does(0, 0, 0, 0) 1
        does(0, 0, 0, 2) 5
        does(0, 0, 0, 3) 1""");
    edge("OFF: from any, back to what it was: mended", """
        "end" 0
        does(0, 0, 0, 0) 1
        mendRule(0, 0, 0, 0) 2
        does(0, 0, 0, 2) 5
        does(0, 0, 0, 3) 2""");
    edge("OFF: from any, back to what it was: tested", """
        "end" 0
        does(0, 0, 0, 0) 1
        mendRule(0, 0, 0, 0) 2
        test(0, 0, 0, 2000) 3
        does(0, 0, 0, 2) 5
        does(0, 0, 0, 3) 3""");
    edge("OFF: from any, back to what it was: in use", """
        "end" 0
        does(0, 0, 0, 0) 1
        mendRule(0, 0, 0, 0) 2
        test(0, 0, 0, 2000) 3
        does(0, 0, 0, 1) 4
        count(3) 1
        does(0, 0, 0, 2) 5
        count(3) 0
        does(0, 0, 0, 3) 4
        count(3) 1""");
    edge("OFF: one that is OFF does not become so again, and comes back to what it was", """
        "end" 0
        does(0, 0, 0, 0) 1
        does(0, 0, 0, 2) 5
        does(0, 0, 0, 2) STATE
        count(6) 2
        does(0, 0, 0, 3) 1""");
    edge("back: only one that is OFF", """
        "end" 0
        does(0, 0, 0, 3) STATE
        does(0, 0, 0, 2) 5
        does(0, 0, 0, 3) 0
        does(0, 0, 0, 3) STATE""");
    edge("OFF, back, and OFF from another STATE", """
        "end" 0
        does(0, 0, 0, 2) 5
        does(0, 0, 0, 3) 0
        does(0, 0, 0, 0) 1
        does(0, 0, 0, 2) 5
        does(0, 0, 0, 3) 1""");
  }

  private static void doesRefusals() {
    edge("17: NONE: PROGRAM", """
        does(0, 0, 0, 0) NONE
        "end" 0
        does(1, 0, 0, 0) NONE
        does(-1, 0, 0, 0) NONE""");
    edge("17: NONE: what", """
        "end" 0
        does(0, 0, 0, 4) NONE
        does(0, 0, 0, -1) NONE""");
    edge("17: NONE, then BAD, then STATE", """
        "end" 0
        does(1, 0, 1000, 3) NONE
        does(0, 8, 1000, 3) NONE
        does(0, 0, 1000, 4) NONE
        does(0, 0, 1000, 3) BAD
        does(0, 0, 999, 3) STATE""");
    edge("17: what is refused changes nothing: STATE, THE BOOK, the RUN last made", """
        "end" 0
        run(0, 2000) 0
        does(0, 8, 0, 2) NONE
        does(0, 0, -1, 2) BAD
        does(0, 0, 0, 3) STATE
        programOf(0, 0) 0
        programOf(0, 6) 0
        count(6) 0""");
  }

  private static void mend() {
    edge("18: NONE: PROGRAM, FIELD", """
        mend(0, 0, 0, 0, 2, 5) NONE
        "end" 0
        does(0, 0, 0, 0) 1
        mend(1, 0, 0, 0, 2, 5) NONE
        mend(-1, 0, 0, 0, 2, 5) NONE
        mend(0, 0, 0, -1, 2, 5) NONE
        mend(0, 0, 0, 6, 2, 5) NONE
        mend(0, 0, 0, 0, 2, 5) 2
        mend(0, 0, 0, 5, 2, 5) 2""");
    edge("18: each of 2 or 4 DIGITS", """
        "end" 0
        does(0, 0, 0, 0) 1
        mend(0, 0, 0, 0, 1, 5) BAD
        mend(0, 0, 0, 0, 3, 5) BAD
        mend(0, 0, 0, 0, 5, 5) BAD
        mend(0, 0, 0, 0, 0, 5) BAD
        mend(0, 0, 0, 0, -2, 5) BAD
        mend(0, 0, 0, 0, 2, 5) 2
        mend(0, 0, 0, 0, 4, 5) 2""");
    edge("18: a PIVOT (0 .. 100) .. (NONE: none)", """
        "end" 0
        does(0, 0, 0, 0) 1
        mend(0, 0, 0, 0, 2, -2) BAD
        mend(0, 0, 0, 0, 2, 101) BAD
        mend(0, 0, 0, 0, 4, 101) BAD
        mend(0, 0, 0, 0, 2, NONE) 2
        mend(0, 0, 0, 0, 2, 0) 2
        mend(0, 0, 0, 0, 2, 100) 2""");
    edge("18: NONE, then BAD, then STATE", """
        "end" 0
        mend(1, 0, 1000, 0, 3, 101) NONE
        mend(0, 0, 1000, 6, 3, 101) NONE
        mend(0, 8, 1000, 0, 3, 101) NONE
        mend(0, 0, 1000, 0, 2, 5) BAD
        mend(0, 0, 0, 0, 3, 5) BAD
        mend(0, 0, 0, 0, 2, 101) BAD
        mend(0, 0, 0, 0, 2, 5) STATE""");
    edge("18: what is refused changes nothing: DIGITS, PIVOT, STATE, THE BOOK", """
        "end" 0
        does(0, 0, 0, 0) 1
        mend(0, 0, 0, 0, 3, 5) BAD
        mend(0, 0, 0, 0, 4, 101) BAD
        mend(0, 0, 1000, 0, 4, 5) BAD
        mend(0, 8, 0, 0, 4, 5) NONE
        field(0, 0, 0) 2
        field(0, 0, 1) NONE
        programOf(0, 0) 1
        count(6) 1""");
    edge("18: of a FIELD, not of the others, and not of another PROGRAM", """
        "end" 0
        "end" 1
        does(0, 0, 0, 0) 1
        mend(0, 0, 0, 3, 4, 5) 2
        field(0, 2, 0) 2
        field(0, 4, 0) 2
        field(0, 2, 1) NONE
        field(0, 4, 1) NONE
        field(1, 3, 0) 2
        field(1, 3, 1) NONE""");
  }

  private static void mendRule() {
    edge("19: a LEAP RULE (0 .. 2)", """
        "end" 0
        does(0, 0, 0, 0) 1
        mendRule(0, 0, 0, -1) BAD
        mendRule(0, 0, 0, 3) BAD
        programOf(0, 0) 1
        mendRule(0, 0, 0, 0) 2
        mendRule(0, 0, 0, 2) 2
        programOf(0, 2) 2""");
    edge("19: NONE: PROGRAM", """
        mendRule(0, 0, 0, 0) NONE
        "end" 0
        mendRule(1, 0, 0, 0) NONE
        mendRule(-1, 0, 0, 0) NONE""");
    edge("19: NONE, then BAD, then STATE", """
        "end" 0
        mendRule(1, 0, 1000, 3) NONE
        mendRule(0, 8, 1000, 3) NONE
        mendRule(0, 0, 1000, 0) BAD
        mendRule(0, 0, 0, 3) BAD
        mendRule(0, 0, 0, 0) STATE""");
    edge("19: what is refused changes nothing", """
        "end" 0
        does(0, 0, 0, 0) 1
        mendRule(0, 0, 1000, 2) BAD
        mendRule(0, 8, 0, 2) NONE
        mendRule(0, 0, 0, 3) BAD
        programOf(0, 2) 0
        programOf(0, 0) 1
        count(6) 1""");
  }

  private static void test() {
    edge("20: a YEAR (1900 .. 2099)", """
        "now a;out a" 0
        does(0, 0, 0, 0) 1
        mendRule(0, 0, 0, 0) 2
        test(0, 0, 0, 1899) BAD
        test(0, 0, 0, 2100) BAD
        count(11) 0
        programOf(0, 6) -1
        test(0, 0, 0, 1900) 2
        file(0, 0, true) 1900
        test(0, 0, 0, 2099) 2
        file(0, 0, true) 2099
        count(11) 2""");
    edge("20: NONE: PROGRAM", """
        test(0, 0, 0, 2000) NONE
        "end" 0
        test(1, 0, 0, 2000) NONE
        test(-1, 0, 0, 2000) NONE""");
    edge("20: NONE, then BAD, then STATE", """
        "end" 0
        test(1, 0, 1000, 2100) NONE
        test(0, 8, 1000, 2100) NONE
        test(0, 0, 1000, 2000) BAD
        test(0, 0, 0, 2100) BAD
        test(0, 0, 0, 2000) STATE
        count(11) 0
        count(6) 0""");
    edge("20: a test of one that STOPS as its TWIN does is not WRONG", """
        "in a" 0
        does(0, 0, 0, 0) 1
        mendRule(0, 0, 0, 0) 2
        test(0, 0, 0, 2000) 3
        programOf(0, 6) 1""");
  }

  private static void book() {
    edge("21: -5: none such: i", """
        book(0, 0) -5
        "end" 0
        does(0, 0, 0, 0) 1
        book(0, 0) 0
        book(1, 0) -5
        book(-1, 0) -5
        book(MAX, 0) -5
        book(MIN, 0) -5""");
    edge("21: -5: none such: what", """
        "end" 0
        does(0, 5, 6, 0) 1
        book(0, 0) 0
        book(0, 1) 5
        book(0, 2) 6
        book(0, 3) 1
        book(0, 4) -5
        book(0, -1) -5""");
    edge("in THE BOOK: 200 are kept: the 200th", """
        "end" 0
        does(0, 0, 0, 0) 1
        198 x mendRule(0, 1, 1, 1) 2
        book(199, 1) -5
        mendRule(0, 7, 9, 1) 2
        book(199, 1) 7
        book(199, 2) 9
        count(6) 200""");
    edge("in THE BOOK: 200 are kept: not the 201st, that happens all the same", """
        "end" 0
        does(0, 0, 0, 0) 1
        199 x mendRule(0, 1, 1, 1) 2
        mendRule(0, 7, 9, 2) 2
        book(200, 1) -5
        book(199, 1) 1
        book(0, 3) 1
        count(6) 201
        programOf(0, 2) 2""");
    edge("21: the STATE then: OFF, and what it was", """
        "end" 0
        does(0, 0, 0, 2) 5
        does(0, 0, 0, 3) 0
        book(0, 3) 5
        book(1, 3) 0""");
    edge("Each is told .. in THE BOOK: a test of one that stays, too; a RUN is none", """
        "now a;out a" 0
        does(0, 0, 0, 0) 1
        mendRule(0, 0, 0, 0) 2
        run(0, 2000) 0
        test(0, 3, 4, 2000) 2
        count(6) 3
        book(2, 1) 3
        book(2, 3) 2""");
  }

  private static void breaks() {
    edge("BREAKS: YEARS (1900 .. 2099): only the first", """
        "now a;set b 1900;if a=b 4;end;out a" 0
        does(0, 0, 0, 0) 1
        mend(0, 0, 0, 1, 4, -1) 2
        breaks(0, 0, 4, -1, 0) 1
        breaks(0, 0, 4, -1, 1) 1900""");
    edge("BREAKS: YEARS (1900 .. 2099): only the last", """
        "now a;set b 2099;if a=b 4;end;out a" 0
        does(0, 0, 0, 0) 1
        mend(0, 0, 0, 1, 4, -1) 2
        breaks(0, 0, 4, -1, 0) 1
        breaks(0, 0, 4, -1, 1) 2099""");
    edge("BREAKS: YEARS (1900 .. 2099): all", """
        "now a;out a" 0
        breaks(0, 0, 4, -1, 0) 200
        breaks(0, 0, 4, -1, 1) 1900""");
    edge("BREAKS: the first (1; -1): in none", """
        "now a;out a" 0
        breaks(0, 0, 2, 50, 0) 0
        breaks(0, 0, 2, 50, 1) -1
        breaks(0, 0, 2, -1, 0) 0""");
    edge("BREAKS: its FILE would be another one: not its END", """
        "now a;set b 50;if a<b 4;in c" 0
        breaks(0, 0, 4, -1, 0) 0""");
    edge("BREAKS: with one FIELD's: the others, and the RULE, are as they are", """
        "now a;now b;leap b 4;end;out a" 0
        does(0, 0, 0, 0) 1
        mend(0, 0, 0, 1, 2, 50) 2
        mendRule(0, 0, 0, 2) 2
        breaks(0, 0, 4, -1, 0) 50
        breaks(0, 0, 4, -1, 1) 1900
        mend(0, 0, 0, 1, 4, 50) 2
        breaks(0, 0, 4, -1, 0) 49
        breaks(0, 0, 4, -1, 1) 1904
        breaks(0, 1, 2, -1, 0) 1
        breaks(0, 1, 2, -1, 1) 2000""");
    edge("BREAKS: INPUTS as they are now", """
        "in a;if a=b 3;out c" 0
        "set a 100;out a" 1
        breaks(0, 0, 4, -1, 0) 0
        shelve 0: 100
        breaks(0, 0, 4, -1, 0) 200
        input(0, 1) NONE
        breaks(0, 0, 4, -1, 0) 0
        does(1, 0, 0, 0) 1
        mend(1, 0, 0, 0, 4, -1) 2
        run(1, 2000) 0
        breaks(0, 0, 4, -1, 0) 200""");
    edge("BREAKS: nothing is run, written or mended by asking", """
        "now a;out a" 0
        breaks(0, 0, 4, 7, 0) 200
        count(11) 0
        programOf(0, 4) 0
        programOf(0, 6) -1
        field(0, 0, 0) 2
        field(0, 0, 1) NONE""");
    edge("22: NONE: PROGRAM, FIELD, what", """
        breaks(0, 0, 2, 5, 0) NONE
        "end" 0
        breaks(1, 0, 2, 5, 0) NONE
        breaks(-1, 0, 2, 5, 0) NONE
        breaks(0, 6, 2, 5, 0) NONE
        breaks(0, -1, 2, 5, 0) NONE
        breaks(0, 0, 2, 5, 2) NONE
        breaks(0, 0, 2, 5, -1) NONE
        breaks(0, 5, 2, 5, 1) -1""");
    edge("22: BAD: DIGITS, PIVOT", """
        "end" 0
        breaks(0, 0, 3, 5, 0) BAD
        breaks(0, 0, 1, 5, 0) BAD
        breaks(0, 0, 5, 5, 0) BAD
        breaks(0, 0, 2, -2, 0) BAD
        breaks(0, 0, 2, 101, 0) BAD
        breaks(0, 0, 2, 100, 0) 0
        breaks(0, 0, 2, -1, 0) 0""");
    edge("22: NONE, then BAD", """
        "end" 0
        breaks(1, 0, 3, 5, 0) NONE
        breaks(0, 6, 3, 5, 0) NONE
        breaks(0, 0, 3, 101, 2) NONE""");
  }

  private static void chips() {
    edge("CHIPS 0 .. 5, as they come; FULL", """
        chip(0, 0) 0
        4 x chip(0, 0)
        chip(0, 0) 5
        chip(0, 0) FULL
        count(1) 6""");
    edge("CHIPS 0 .. 5: none is behind the last", """
        6 x chip(0, 0)
        ask(5, 2000) 3801
        ask(6, 2000) NONE
        fit(6, 0) NONE
        ask(7, 2000) NONE""");
    edge("23: a PIVOT (0 .. 100)", """
        chip(-1, 0) BAD
        chip(101, 0) BAD
        count(1) 0
        chip(0, 0) 0
        chip(100, 0) 1""");
    edge("23: a RULE (0 .. 2)", """
        chip(0, -1) BAD
        chip(0, 3) BAD
        count(1) 0
        chip(0, 0) 0
        chip(0, 2) 1""");
    edge("23: BAD, then FULL", """
        6 x chip(0, 0)
        chip(101, 0) BAD
        chip(0, 3) BAD""");
  }

  private static void asked() {
    edge("24: a YEAR (1900 .. 2099)", """
        chip(0, 0) 0
        ask(0, 1899) BAD
        ask(0, 2100) BAD
        fit(0, 0) 303
        ask(0, 1900) 3801
        ask(0, 2099) 3998""");
    edge("ASKED: by the YEAR's last two figures", """
        chip(50, 2) 0
        ask(0, 1949) 4098
        ask(0, 2049) 4098
        ask(0, 1950) 3900
        ask(0, 2050) 3900""");
    edge("ASKED: PIVOT 0, PIVOT 100", """
        chip(0, 2) 0
        chip(100, 2) 1
        ask(0, 2000) 3800
        ask(0, 1999) 3998
        ask(1, 1900) 4001
        ask(1, 1999) 4198""");
    edge("ASKED: and 1 if that leaps by its RULE", """
        chip(1, 0) 0
        chip(1, 1) 1
        chip(1, 2) 2
        ask(0, 1900) 4001
        ask(1, 1900) 4000
        ask(2, 1900) 4001
        ask(1, 1904) 3809""");
    edge("24: NONE", """
        ask(0, 2000) NONE
        chip(0, 0) 0
        ask(1, 2000) NONE
        ask(-1, 2000) NONE""");
    edge("24: FULL: 30 times", """
        chip(50, 0) 0
        29 x ask(0, 1999) 3998
        ask(0, 1999) 3998
        ask(0, 1999) FULL
        ask(0, 1950) FULL
        fit(0, 0) 300""");
    edge("24: 30 times: each CHIP", """
        chip(50, 0) 0
        chip(50, 0) 1
        30 x ask(0, 1999) 3998
        ask(1, 1999) 3998""");
    edge("24: NONE, then BAD, then FULL", """
        chip(50, 0) 0
        ask(1, 1899) NONE
        30 x ask(0, 1999) 3998
        ask(0, 2100) BAD""");
    edge("24: a refused one is not among the 30", """
        chip(50, 0) 0
        30 x ask(0, 1899) BAD
        30 x ask(0, 1999) 3998""");
  }

  private static void fits() {
    edge("FITS: of all 303: one that was not ASKED", """
        chip(77, 1) 0
        fit(0, 0) 303
        fit(0, 1) 0
        fit(0, 2) 1949
        fit(0, 3) 153""");
    edge("FITS: PIVOT 0 and PIVOT 100 among them", """
        chip(0, 0) 0
        chip(100, 2) 1
        ask(0, 1900) 3801
        fit(0, 0) 1
        fit(0, 1) 0
        ask(1, 1999) 4198
        ask(1, 1900) 4001
        fit(1, 0) 2
        fit(1, 1) 300""");
    edge("FITS: one alone", """
        chip(100, 1) 0
        ask(0, 1999) 4198
        ask(0, 1900) 4000
        fit(0, 0) 1
        fit(0, 1) 301
        fit(0, 2) 1900
        fit(0, 3) 1""");
    edge("FITS: the PIVOT from both sides", """
        chip(50, 0) 0
        ask(0, 1949) 4098
        fit(0, 0) 153
        fit(0, 1) 150
        ask(0, 1950) 3900
        fit(0, 0) 3
        fit(0, 1) 150""");
    edge("The YEAR that PARTS most: .. of several the least", """
        chip(50, 2) 0
        ask(0, 1949) 4098
        ask(0, 1950) 3900
        fit(0, 2) 1900
        fit(0, 3) 2""");
    edge("The YEAR that PARTS most: the last of a hundred", """
        chip(100, 0) 0
        ask(0, 1998) 4196
        fit(0, 0) 6
        fit(0, 2) 1999
        fit(0, 3) 3""");
    edge("25: NONE: CHIP, what", """
        fit(0, 0) NONE
        chip(0, 0) 0
        fit(1, 0) NONE
        fit(-1, 0) NONE
        fit(0, 4) NONE
        fit(0, -1) NONE""");
  }

  private static void papers() {
    edge("26: FULL: 60", """
        "end" 0
        59 x sign(0, 1, true, 0, 1)
        sign(0, 1, true, 0, 1) 59
        sign(0, 2, false, 0, 2) FULL
        count(7) 60
        knew(0, 0, 999) 1""");
    edge("26: an office 0 .. 5", """
        "end" 0
        sign(0, 1, true, -1, 1) NONE
        sign(0, 1, true, 6, 1) NONE
        sign(0, 1, true, 0, 1) 0
        sign(0, 1, true, 5, 1) 1
        knew(0, 5, 1) 1
        knew(0, 4, 1) -1""");
    edge("26: NONE: PROGRAM", """
        sign(0, 1, true, 0, 1) NONE
        "end" 0
        sign(1, 1, true, 0, 1) NONE
        sign(-1, 1, true, 0, 1) NONE""");
    edge("26: BAD: DAYS (0 .. 999)", """
        "end" 0
        sign(0, -1, true, 0, 1) BAD
        sign(0, 1000, true, 0, 1000) BAD
        sign(0, 1, true, 0, 1000) BAD
        sign(0, -1, true, 0, -1) BAD
        count(7) 0
        sign(0, 0, true, 0, 0) 0
        sign(0, 999, true, 0, 999) 1
        sign(0, 0, true, 0, 999) 2""");
    edge("KNOWN in an office .. from a DAY on (no less)", """
        "end" 0
        sign(0, 5, true, 0, 4) BAD
        sign(0, 5, true, 0, 5) 0
        sign(0, 5, true, 0, 6) 1""");
    edge("26: NONE, then BAD, then FULL", """
        "end" 0
        sign(1, 5, true, 0, 4) NONE
        sign(0, 1000, true, 6, 4) NONE
        60 x sign(0, 1, true, 0, 1)
        sign(0, 5, true, 0, 4) BAD
        sign(1, 5, true, 0, 5) NONE""");
  }

  private static void knew() {
    edge("27: -1 no paper", """
        "end" 0
        "end" 1
        knew(0, 0, 999) -1
        sign(0, 1, true, 0, 1) 0
        knew(0, 1, 999) -1
        knew(1, 0, 999) -1""");
    edge("KNOWN .. from a DAY on", """
        "end" 0
        sign(0, 5, true, 0, 7) 0
        knew(0, 0, 6) -1
        knew(0, 0, 7) 1
        knew(0, 0, 999) 1""");
    edge("the paper of the latest DAY, though it came first and was known first", """
        "end" 0
        sign(0, 6, true, 0, 6) 0
        sign(0, 5, false, 0, 9) 1
        knew(0, 0, 9) 1""");
    edge("of several the last", """
        "end" 0
        sign(0, 5, true, 0, 9) 0
        sign(0, 5, false, 0, 5) 1
        knew(0, 0, 8) 0
        knew(0, 0, 9) 0
        sign(0, 5, true, 0, 7) 2
        knew(0, 0, 9) 1
        knew(0, 0, 6) 0""");
    edge("on DAY 0", """
        "end" 0
        sign(0, 0, false, 0, 0) 0
        knew(0, 0, 0) 0
        sign(0, 0, true, 0, 0) 1
        knew(0, 0, 0) 1""");
    edge("27: -5: none such (a DAY, too)", """
        knew(0, 0, 0) -5
        "end" 0
        knew(1, 0, 0) -5
        knew(-1, 0, 0) -5
        knew(0, 6, 0) -5
        knew(0, -1, 0) -5
        knew(0, 0, -1) -5
        knew(0, 0, 1000) -5
        knew(0, 0, 999) -1""");
  }
}
