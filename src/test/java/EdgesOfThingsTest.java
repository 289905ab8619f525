/** The sentences of promises 36 to 43, and of the terms they use, that name a boundary: one run of calls each. */
public final class EdgesOfThingsTest {
  private static final Check check = new Check("EdgesOfThingsTest");

  private EdgesOfThingsTest() {
  }

  public static void main(String[] args) {
    things();
    acts();
    trace();
    taken();
    count();
    countsRefused();
    sheets();
    cells();
    copies();
    copyRefusals();
    check.finish();
  }

  private static void edge(String sentence, String calls) {
    Script.run(check, sentence, calls);
  }

  private static void things() {
    edge("THINGS 0 .. 39, as they come; FULL", """
        thing(0, 0) 0
        38 x thing(0, 0)
        thing(0, 9) 39
        thing(0, 0) FULL
        count(2) 40
        act(39, 0, 1) 10""");
    edge("each of a KIND: 0 .. 6", """
        thing(-1, 0) BAD
        thing(7, 0) BAD
        count(2) 0
        thing(0, 0) 0
        thing(6, 0) 1""");
    edge("SIZE (0 .. 99)", """
        thing(0, -1) BAD
        thing(0, 100) BAD
        count(2) 0
        thing(0, 0) 0
        thing(0, 99) 1
        act(0, 0, 1) 1
        act(1, 0, 1) 100""");
    edge("36: BAD, then FULL", """
        40 x thing(0, 0)
        thing(7, 0) BAD
        thing(0, 100) BAD""");
  }

  private static void acts() {
    edge("with x (wrapping): THING", """
        thing(0, 1) 0
        act(0, 0, MAX) MIN
        act(0, 0, MIN) -2147483647
        act(0, 1, MAX) 0
        act(0, 1, 1073741823) MIN""");
    edge("m its number: 0, and of the last", """
        39 x thing(4, 5)
        thing(0, 5) 39
        act(39, 2, 1) 33
        act(0, 2, 1) 1""");
    edge("with x (wrapping): x + m", """
        thing(0, 0) 0
        thing(0, 0) 1
        act(1, 2, MAX) 2147483646""");
    edge("with x (wrapping): x - 1 of a FILE", """
        thing(3, 0) 0
        act(0, 2, MIN) -2147483647
        act(0, 2, 0) 1""");
    edge("with x (wrapping): ten times", """
        thing(1, 0) 0
        thing(5, 0) 1
        act(0, 0, 429496730) 4
        act(1, 0, 429496730) -15
        act(1, 0, 0) -19""");
    edge("37: 0, and no TRACE then: no such THING", """
        act(0, 0, 5) 0
        thing(0, 5) 0
        act(0, 0, 5) 10
        act(1, 0, 5) 0
        trace(0) NONE
        count(12) 0
        act(0, 0, 5) 10
        act(-1, 0, 5) 0
        trace(0) NONE
        count(12) 0""");
    edge("37: 0, and no TRACE then: no such act", """
        thing(0, 5) 0
        act(0, 2, 5) 30
        count(12) 4
        act(0, 3, 5) 0
        trace(0) NONE
        count(12) 0
        act(0, 0, 5) 10
        act(0, -1, 5) 0
        trace(0) NONE
        count(12) 0""");
    edge("the body of the THING's KIND, or, if that has none, of the next KIND above that has one", """
        thing(5, 3) 0
        thing(6, 3) 1
        act(0, 1, 1) 42
        trace(0) 11
        act(1, 0, 1) 4
        trace(0) 10
        act(1, 2, 1) 15
        trace(0) 12""");
    edge("super.reads(..): so from the KIND above the body's on, though the THING's is another", """
        thing(5, 3) 0
        act(0, 2, 1) 65
        trace(0) 61
        trace(1) 12
        trace(2) 11
        trace(3) 60
        trace(4) 20
        trace(5) 10
        trace(6) 60
        trace(9) NONE
        count(12) 9""");
  }

  private static void trace() {
    edge("38: NONE: none such: ahead of the first act", """
        trace(0) NONE
        thing(0, 0) 0
        trace(0) NONE""");
    edge("38: NONE: none such: i", """
        thing(0, 0) 0
        act(0, 1, 0) 0
        trace(0) 11
        trace(1) 10
        trace(2) NONE
        trace(-1) NONE
        trace(20) NONE
        trace(MAX) NONE
        trace(MIN) NONE""");
    edge("THE TRACE: .. in the latest act()", """
        thing(0, 0) 0
        act(0, 2, 0) 0
        count(12) 4
        act(0, 0, 0) 0
        trace(0) 10
        trace(1) NONE
        count(12) 1""");
  }

  private static void taken() {
    edge("39: BAD: k (0 .. 6)", """
        thing(6, 0) 0
        taken(0, -1) BAD
        taken(0, 7) BAD
        taken(0, 0) 6
        taken(0, 6) 6""");
    edge("39: -11: no such THING", """
        taken(0, 0) -11
        thing(0, 0) 0
        taken(1, 0) -11
        taken(-1, 0) -11
        taken(MAX, 0) -11""");
    edge("39: BAD, then -11", """
        taken(0, 7) BAD
        taken(-1, -1) BAD""");
    edge("39: -13: one above is not one below", """
        thing(0, 0) 0
        thing(1, 0) 1
        thing(2, 0) 2
        taken(0, 1) -13
        taken(1, 5) -13
        taken(2, 6) -13
        taken(0, 6) -13""");
    edge("39: -13: nor one beside; or one under that", """
        thing(5, 0) 0
        thing(6, 0) 1
        taken(0, 5) 5
        taken(0, 1) 5
        taken(0, 0) 5
        taken(0, 2) -13
        taken(0, 6) -13
        taken(1, 6) 6
        taken(1, 2) 6
        taken(1, 0) 6
        taken(1, 1) -13
        taken(1, 5) -13
        taken(1, 3) -13
        taken(1, 4) -13""");
  }

  private static void count() {
    edge("40: BAD", """
        count(-1) BAD
        count(14) BAD
        count(MIN) BAD
        count(0) 0
        count(13) 0""");
    edge("3 in STATE 4, 4 OFF", """
        "end" 0
        count(3) 0
        does(0, 0, 0, 0) 1
        mendRule(0, 0, 0, 0) 2
        test(0, 0, 0, 2000) 3
        count(3) 0
        does(0, 0, 0, 1) 4
        count(3) 1
        count(4) 0
        does(0, 0, 0, 2) 5
        count(3) 0
        count(4) 1""");
    edge("5 that are WRONG: none before a RUN", """
        "now a;out a" 0
        "end" 1
        count(5) 0
        run(0, 2000) 0
        run(1, 2000) 0
        count(5) 1""");
    edge("6 what THE BOOK had in all: more than are kept", """
        "end" 0
        does(0, 0, 0, 0) 1
        210 x mendRule(0, 0, 0, 0) 2
        count(6) 211""");
    edge("10 bytes of THE TAPE: none, all", """
        count(10) 0
        40 x feed(0, 4)
        count(10) 160
        program() -10
        count(10) 0""");
    edge("11 RUNS made by run(), test(), night() (without TWINS)", """
        "end" 0
        "end" 1
        "end" 2
        does(2, 0, 0, 2) 5
        run(0, 2000) 0
        count(11) 1
        night(2000) 1
        count(11) 3
        does(0, 0, 0, 0) 1
        mendRule(0, 0, 0, 0) 2
        test(0, 0, 0, 2000) 3
        count(11) 4
        run(2, 2000) 0
        count(11) 5""");
    edge("11 RUNS made: by no other call", """
        "now a;out a" 0
        testYear(2000) 0
        fault(0, 0, 4, 0) 0
        breaks(0, 0, 4, 0, 0) 200
        shows(0, 0) 1
        cover(0) 1
        first(1, 9, 2000, 0) 0
        beside(2000) 1
        count(11) 0""");
    edge("12 bodies that ran in the latest act() (all, kept or not)", """
        thing(5, 0) 0
        count(12) 0
        act(0, 2, 0)
        count(12) 9
        act(0, 0, 0)
        count(12) 3""");
  }

  private static void countsRefused() {
    edge("what is refused is not counted: CHIPS, THINGS, STOPS, TESTS, FAULTS, papers", """
        "end" 0
        chip(101, 0) BAD
        thing(7, 0) BAD
        stop(100, 0, 1, 0) BAD
        testYear(1899) BAD
        fault(0, 0, 3, 0) BAD
        sign(0, 5, true, 0, 4) BAD
        count(1) 0
        count(2) 0
        count(13) 0
        count(8) 0
        count(9) 0
        count(7) 0""");
    edge("what is FULL is not counted", """
        6 x chip(0, 0)
        chip(0, 0) FULL
        40 x thing(0, 0)
        thing(0, 0) FULL
        8 x stop(0, 0, 1, 0)
        stop(0, 0, 1, 0) FULL
        8 x testYear(2000)
        testYear(2000) FULL
        count(1) 6
        count(2) 40
        count(13) 8
        count(8) 8""");
  }

  private static void sheets() {
    edge("SHEETS 0 .. 2; BAD: no such SHEET", """
        sheet(-1, 0, 1) BAD
        sheet(3, 0, 1) BAD
        sheet(3, -1, 1) BAD
        sheet(0, 0, 1) 1
        sheet(2, 0, 1) 1""");
    edge("of sort 0 bytes, 1 shorts, 2 ints .. (sort -1 ..); BAD: sort", """
        sheet(0, -2, 1) BAD
        sheet(0, 3, 1) BAD
        cell(0, 0, 1) -11
        sheet(0, 0, 1) 1
        sheet(0, 1, 1) 1
        sheet(0, 2, 1) 1
        sheet(0, -1, 1) 1""");
    edge("41: n above 40", """
        sheet(0, 0, 41) BAD
        sheet(0, 0, MAX) BAD
        cell(0, 0, 1) -11
        sheet(0, 0, 40) 1
        cell(0, 39, 1) 1
        cell(0, 40, 1) -12""");
    edge("41: -14: n below 0", """
        sheet(0, 0, -1) -14
        sheet(0, 0, MIN) -14
        cell(0, 0, 1) -11
        sheet(0, 0, 0) 1
        cell(0, 0, 1) -12""");
    edge("41: BAD, then -14", """
        sheet(3, 0, -1) BAD
        sheet(0, 3, -1) BAD""");
    edge("or missing (sort -1: n does not matter): 1", """
        sheet(0, 2, 3) 1
        sheet(0, -1, 41) 1
        cell(0, 0, 1) -11
        sheet(0, 2, 3) 1
        sheet(0, -1, -1) 1
        cell(0, 0, 1) -11
        sheet(0, -1, 0) 1""");
    edge("becomes a row of n of a sort, all 0", """
        "in a;out a;in a;out a;in a;out a" 0
        sheet(0, 2, 3) 1
        cell(0, 0, 7) 1
        cell(0, 2, 9) 1
        sheet(0, 2, 3) 1
        shelf(0, 0, 2, 0, 3) 3
        run(0, 2000) 0
        file(0, 0, true) 0
        file(0, 1, true) 0
        file(0, 2, true) 0""");
    edge("all 0: also those that it had not before", """
        "in a;out a" 0
        sheet(0, 2, 3) 1
        cell(0, 2, 9) 1
        sheet(0, 2, 1) 1
        sheet(0, 2, 3) 1
        shelf(0, 0, 2, 2, 1) 1
        run(0, 2000) 0
        file(0, 0, true) 0""");
    edge("41: what is refused changes nothing: the row stays", """
        "in a;out a" 0
        sheet(0, 2, 3) 1
        cell(0, 2, 9) 1
        sheet(0, 1, 41) BAD
        sheet(0, 1, -1) -14
        sheet(0, 3, 1) BAD
        shelf(0, 0, 2, 2, 1) 1
        run(0, 2000) 0
        file(0, 0, true) 9""");
  }

  private static void cells() {
    edge("42: BAD: no such SHEET", """
        cell(3, 0, 1) BAD
        cell(-1, 0, 1) BAD
        cell(2, 0, 1) -11""");
    edge("42: -11: it is missing", """
        cell(0, 0, 1) -11
        cell(0, -1, 1) -11
        sheet(0, 0, 1) 1
        cell(0, 0, 1) 1""");
    edge("42: -12: no such item", """
        sheet(0, 0, 2) 1
        cell(0, -1, 1) -12
        cell(0, 2, 1) -12
        cell(0, MAX, 1) -12
        cell(0, MIN, 1) -12
        cell(0, 0, 1) 1
        cell(0, 1, 1) 1""");
    edge("of bytes .. its lowest 8 .. bits", """
        "in a;out a;in a;out a;in a;out a;in a;out a" 0
        sheet(0, 0, 4) 1
        cell(0, 0, 127) 1
        cell(0, 1, 256) 1
        cell(0, 2, -255) 1
        cell(0, 3, 128) 1
        shelf(0, 0, 0, 0, 4) 4
        run(0, 2000) 0
        file(0, 0, true) 127
        file(0, 1, true) 0
        file(0, 2, true) 1
        file(0, 3, true) 0""");
    edge("of .. shorts its lowest .. 16 bits", """
        "in a;out a;in a;out a;in a;out a;in a;out a" 0
        sheet(0, 1, 4) 1
        cell(0, 0, 32767) 1
        cell(0, 1, 65536) 1
        cell(0, 2, -65535) 1
        cell(0, 3, 32768) 1
        shelf(0, 0, 1, 0, 4) 4
        run(0, 2000) 0
        file(0, 0, true) 2767
        file(0, 1, true) 0
        file(0, 2, true) 1
        file(0, 3, true) 0""");
    edge("of ints all", """
        "in a;out a;in a;out a" 0
        sheet(0, 2, 2) 1
        cell(0, 0, 70001) 1
        cell(0, 1, MAX) 1
        shelf(0, 0, 2, 0, 2) 2
        run(0, 2000) 0
        file(0, 0, true) 1
        file(0, 1, true) 3647""");
    edge("42: Item i, and no other", """
        "in a;out a;in a;out a;in a;out a" 0
        sheet(0, 2, 3) 1
        cell(0, 1, 7) 1
        shelf(0, 0, 2, 0, 3) 3
        run(0, 2000) 0
        file(0, 0, true) 0
        file(0, 1, true) 7
        file(0, 2, true) 0""");
  }

  private static void copies() {
    edge("43: (or the same) .. as they all were before: onwards", """
        "in a;out a;in a;out a;in a;out a" 0
        sheet(0, 2, 3) 1
        cell(0, 0, 7) 1
        cell(0, 1, 8) 1
        copy(0, 0, 0, 1, 2) 2
        shelf(0, 0, 2, 0, 3) 3
        run(0, 2000) 0
        file(0, 0, true) 7
        file(0, 1, true) 7
        file(0, 2, true) 8""");
    edge("43: (or the same) .. as they all were before: back", """
        "in a;out a;in a;out a;in a;out a" 0
        sheet(0, 2, 3) 1
        cell(0, 1, 8) 1
        cell(0, 2, 9) 1
        copy(0, 1, 0, 0, 2) 2
        shelf(0, 0, 2, 0, 3) 3
        run(0, 2000) 0
        file(0, 0, true) 8
        file(0, 1, true) 9
        file(0, 2, true) 9""");
    edge("43: n 0: at the end, of a SHEET of no items", """
        sheet(0, 2, 3) 1
        sheet(1, 2, 0) 1
        copy(0, 3, 1, 0, 0) 0
        copy(1, 0, 0, 3, 0) 0
        copy(1, 0, 1, 0, 0) 0""");
    edge("43: all forty", """
        sheet(0, 2, 40) 1
        sheet(1, 2, 40) 1
        copy(0, 0, 1, 0, 40) 40
        copy(0, 0, 1, 0, 41) -12""");
    edge("43: n items, and no other", """
        "in a;out a;in a;out a;in a;out a" 0
        sheet(0, 2, 3) 1
        cell(0, 0, 1) 1
        cell(0, 1, 2) 1
        cell(0, 2, 3) 1
        sheet(1, 2, 3) 1
        copy(0, 1, 1, 1, 1) 1
        shelf(0, 1, 2, 0, 3) 3
        run(0, 2000) 0
        file(0, 0, true) 0
        file(0, 1, true) 2
        file(0, 2, true) 0""");
  }

  private static void copyRefusals() {
    edge("43: BAD: no such SHEETS", """
        sheet(0, 2, 3) 1
        copy(0, 0, 3, 0, 1) BAD
        copy(3, 0, 0, 0, 1) BAD
        copy(0, 0, -1, 0, 1) BAD
        copy(-1, 0, 0, 0, 1) BAD""");
    edge("43: -11: one is missing", """
        sheet(0, 2, 3) 1
        copy(0, 0, 1, 0, 1) -11
        copy(1, 0, 0, 0, 1) -11
        copy(1, 0, 2, 0, 1) -11
        copy(1, 0, 1, 0, 0) -11""");
    edge("43: -13: they are not of one sort", """
        sheet(0, 2, 3) 1
        sheet(1, 1, 3) 1
        sheet(2, 0, 3) 1
        copy(0, 0, 1, 0, 1) -13
        copy(1, 0, 2, 0, 1) -13
        copy(2, 0, 0, 0, 0) -13""");
    edge("43: -12: n, i or j is below 0", """
        sheet(0, 2, 3) 1
        sheet(1, 2, 3) 1
        copy(0, -1, 1, 0, 1) -12
        copy(0, 0, 1, -1, 1) -12
        copy(0, 0, 1, 0, -1) -12
        copy(0, -1, 1, 0, 0) -12
        copy(0, 0, 1, -1, 0) -12
        copy(0, MIN, 1, 0, MIN) -12""");
    edge("43: -12: .. or beyond either's end", """
        sheet(0, 2, 3) 1
        sheet(1, 2, 4) 1
        copy(0, 0, 1, 0, 4) -12
        copy(0, 1, 1, 0, 3) -12
        copy(1, 0, 0, 1, 3) -12
        copy(0, 3, 1, 0, 1) -12
        copy(0, 4, 1, 0, 0) -12
        copy(0, 0, 1, 5, 0) -12
        copy(0, MAX, 1, 0, MAX) -12
        copy(0, 0, 1, MAX, 1) -12
        copy(0, 0, 1, 0, 3) 3
        copy(0, 0, 1, 1, 3) 3""");
    edge("43: BAD, then -11, then -13, then -12", """
        sheet(0, 2, 3) 1
        sheet(1, 1, 3) 1
        copy(2, 0, 3, 0, -1) BAD
        copy(0, 0, 2, 0, -1) -11
        copy(0, 9, 1, 9, -1) -13""");
    edge("43: what is refused changes nothing", """
        "in a;out a;in a;out a;in a;out a" 0
        sheet(0, 2, 4) 1
        cell(0, 0, 7) 1
        cell(0, 1, 8) 1
        sheet(1, 2, 3) 1
        copy(0, 0, 1, 0, 4) -12
        copy(0, 0, 1, 2, 2) -12
        shelf(0, 1, 2, 0, 3) 3
        run(0, 2000) 0
        file(0, 0, true) 0
        file(0, 1, true) 0
        file(0, 2, true) 0""");
  }
}
