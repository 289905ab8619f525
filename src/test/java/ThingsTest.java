/** Promises 36 to 43: THINGS, ACTS and their TRACE, counts, and SHEETS. */
public final class ThingsTest {
  private static final Check check = new Check("ThingsTest");

  private ThingsTest() {
  }

  public static void main(String[] args) {
    promise36Thing();
    promise37Act();
    promise37None();
    promise38Trace();
    promise39Taken();
    promise40Count();
    promise41Sheet();
    promise42Cell();
    promise43Copy();
    promise43Refusals();
    check.finish();
  }

  private static TwoDigits ofEachKind() {
    TwoDigits x = new TwoDigits();
    for (int kind = 0; kind <= 6; kind++) {
      check.due("thing of kind " + kind, x.thing(kind, 5 + kind), kind);
    }
    return x;
  }

  private static void promise36Thing() {
    TwoDigits x = ofEachKind();
    check.due("kind", x.thing(7, 0), -2);
    check.due("kind", x.thing(-1, 0), -2);
    check.due("size", x.thing(0, 100), -2);
    check.due("size", x.thing(0, -1), -2);
    check.due("seven", x.count(2), 7);
    for (int i = 7; i < 40; i++) {
      check.due("thing " + i, x.thing(i % 7, i == 39 ? 99 : 0), i);
    }
    check.due("one more", x.thing(0, 0), -4);
    check.due("BAD ahead of FULL", x.thing(7, 0), -2);
    check.due("forty", x.count(2), 40);
    check.due("the last, a MEND", x.act(39, 1, 1), 101);
  }

  /** An act of a THING, its answer and THE TRACE. */
  private static void acts(TwoDigits x, int thing, int act, int given, int answer, int... bodies) {
    String it = "act(" + thing + ", " + act + ", " + given + ")";
    check.due(it, x.act(thing, act, given), answer);
    check.due("bodies of " + it, x.count(12), bodies.length);
    for (int i = 0; i < bodies.length; i++) {
      check.due("body " + i + " of " + it, x.trace(i), bodies[i]);
    }
    check.due("behind the last of " + it, x.trace(bodies.length), -1);
  }

  private static void promise37Act() {
    TwoDigits x = ofEachKind();
    acts(x, 0, 0, 7, 12, 10);
    acts(x, 0, 1, 7, 24, 11, 10);
    acts(x, 0, 2, 7, 24 ^ 12, 12, 11, 10, 10);
    acts(x, 1, 0, 7, 130, 20, 10);
    acts(x, 1, 1, 7, 260, 11, 20, 10);
    acts(x, 1, 2, 7, 260 ^ 140, 12, 11, 20, 10, 20, 10);
    acts(x, 2, 0, 7, 14, 10);
    acts(x, 2, 1, 7, 30, 30, 11, 10);
    acts(x, 2, 2, 7, 30 ^ 16, 12, 30, 11, 10, 10);
    acts(x, 3, 0, 7, 15, 10);
    acts(x, 3, 1, 7, 30, 11, 10);
    acts(x, 3, 2, 7, 28 ^ 17, 40, 12, 11, 10, 10);
    acts(x, 4, 0, 7, 16, 10);
    acts(x, 4, 1, 7, 23, 50, 11, 10);
    acts(x, 4, 2, 7, 23 ^ 20, 12, 50, 11, 10, 10);
    acts(x, 5, 0, 7, 151, 60, 20, 10);
    acts(x, 5, 1, 7, 302, 11, 60, 20, 10);
    acts(x, 5, 2, 7, (302 ^ 201) + 2, 61, 12, 11, 60, 20, 10, 60, 20, 10);
    acts(x, 6, 0, 7, 18, 10);
    acts(x, 6, 1, 7, 42 ^ 3, 70, 30, 11, 10);
    acts(x, 6, 2, 7, 42 ^ 3 ^ 24, 12, 70, 30, 11, 10, 10);
    acts(x, 0, 0, Integer.MAX_VALUE, Integer.MIN_VALUE + 4, 10);
    acts(x, 0, 1, Integer.MAX_VALUE, 8, 11, 10);
    acts(x, 1, 0, 1 << 30, Integer.MIN_VALUE + 60, 20, 10);
    acts(x, 3, 2, Integer.MIN_VALUE, 14 ^ Integer.MIN_VALUE + 10, 40, 12, 11, 10, 10);
  }

  private static void promise37None() {
    TwoDigits x = ofEachKind();
    int[][] none = {{7, 0}, {-1, 0}, {0, 3}, {0, -1}, {Integer.MAX_VALUE, 0}, {7, 7}};
    for (int[] it : none) {
      x.act(0, 2, 5);
      acts(x, it[0], it[1], 5, 0);
      check.due("no first body", x.trace(0), -1);
    }
  }

  private static void promise38Trace() {
    TwoDigits x = ofEachKind();
    check.due("no act yet", x.trace(0), -1);
    x.act(5, 2, 0);
    check.due("the first", x.trace(0), 61);
    check.due("the last", x.trace(8), 10);
    check.due("none", x.trace(9), -1);
    check.due("none", x.trace(20), -1);
    check.due("below 0", x.trace(-1), -1);
    check.due("far below 0", x.trace(Integer.MIN_VALUE), -1);
    x.act(0, 0, 0);
    check.due("the latest alone", x.trace(0), 10);
    check.due("the latest alone", x.trace(1), -1);
    x.thing(0, 100);
    check.due("until the next act", x.trace(0), 10);
  }

  private static void promise39Taken() {
    int[][] above = {{0}, {0, 1}, {0, 2}, {0, 3}, {0, 4}, {0, 1, 5}, {0, 2, 6}};
    TwoDigits x = ofEachKind();
    for (int kind = 0; kind <= 6; kind++) {
      for (int k = 0; k <= 6; k++) {
        boolean is = false;
        for (int some : above[kind]) {
          is |= some == k;
        }
        check.due("taken(" + kind + ", " + k + ")", x.taken(kind, k), is ? kind : -13);
      }
      check.due("no kind", x.taken(kind, 7), -2);
      check.due("no kind", x.taken(kind, -1), -2);
    }
    check.due("no such thing", x.taken(7, 0), -11);
    check.due("no such thing", x.taken(-1, 6), -11);
    check.due("BAD ahead of that", x.taken(7, 7), -2);
  }

  private static void promise40Count() {
    TwoDigits x = Land.with("now a;out a", "end", "in b;out b");
    counts(x, 3, 0, 0, 0, 0, 0, 0, 0, 0, 0, 0, 0, 0, 0);
    x.chip(1, 1);
    x.chip(2, 2);
    x.thing(0, 0);
    x.thing(1, 0);
    x.thing(2, 0);
    x.thing(3, 0);
    x.does(1, 0, 0, 0);
    x.mend(1, 0, 0, 0, 4, -1);
    x.test(1, 0, 0, 2000);
    x.does(1, 0, 0, 1);
    x.does(2, 0, 0, 2);
    x.run(0, 2000);
    x.sign(0, 0, true, 0, 0);
    x.testYear(2000);
    x.testYear(2001);
    x.testYear(2002);
    x.fault(0, 0, 4, -1);
    x.fault(0, 0, 2, 5);
    Land.feed(x, "end;e");
    x.act(1, 2, 3);
    for (int i = 0; i < 7; i++) {
      x.stop(1, 1, 1, 1);
    }
    counts(x, 3, 2, 4, 1, 1, 1, 5, 1, 3, 2, 5, 2, 6, 7);
    x.night(1999);
    counts(x, 3, 2, 4, 1, 1, 1, 5, 1, 3, 2, 5, 4, 6, 7);
    x.run(0, 2100);
    x.run(7, 2000);
    x.breaks(0, 0, 4, -1, 0);
    x.first(7, 9, 2000, 0);
    x.beside(2000);
    x.cover(0);
    counts(x, 3, 2, 4, 1, 1, 1, 5, 1, 3, 2, 5, 4, 6, 7);
    x.input(2, 0);
    x.run(2, 2000);
    counts(x, 3, 2, 4, 1, 1, 2, 5, 1, 3, 2, 5, 5, 6, 7);
    x.does(0, 0, 0, 2);
    counts(x, 3, 2, 4, 1, 2, 1, 6, 1, 3, 2, 5, 5, 6, 7);
    check.due("no such", x.count(14), -2);
    check.due("no such", x.count(-1), -2);
  }

  private static void counts(TwoDigits x, int... want) {
    for (int what = 0; what < want.length; what++) {
      check.due("count(" + what + ")", x.count(what), want[what]);
    }
  }

  private static void promise41Sheet() {
    TwoDigits x = new TwoDigits();
    check.due("no such sheet", x.sheet(3, 0, -1), -2);
    check.due("no such sheet", x.sheet(-1, 0, 1), -2);
    check.due("no such sheet", x.sheet(3, -1, 1), -2);
    check.due("no such sort", x.sheet(0, 3, -1), -2);
    check.due("no such sort", x.sheet(0, -2, 1), -2);
    check.due("too long", x.sheet(0, 0, 41), -2);
    check.due("below 0", x.sheet(0, 0, -1), -14);
    check.due("far below 0", x.sheet(0, 2, Integer.MIN_VALUE), -14);
    check.due("missing still", x.cell(0, 0, 1), -11);
    for (int sort = 0; sort <= 2; sort++) {
      check.due("forty", x.sheet(sort, sort, 40), 1);
      check.due("the last", x.cell(sort, 39, 1), 1);
      check.due("none behind it", x.cell(sort, 40, 1), -12);
    }
    check.due("of no items", x.sheet(0, 1, 0), 1);
    check.due("none", x.cell(0, 0, 1), -12);
    check.due("missing, n does not matter", x.sheet(0, -1, 99), 1);
    check.due("missing", x.cell(0, 0, 1), -11);
    check.due("missing, n does not matter", x.sheet(1, -1, -99), 1);
    check.due("missing", x.cell(1, 0, 1), -11);
    items(x, 2, 2, 0);
    x.cell(2, 0, 7);
    items(x, 2, 2, 7);
    check.due("refused", x.sheet(2, 2, 41), -2);
    items(x, 2, 2, 7);
    check.due("anew", x.sheet(2, 2, 3), 1);
    items(x, 2, 2, 0, 0, 0);
  }

  /** Items of a SHEET as a PROGRAM reads them from its SHELF. */
  private static void items(TwoDigits x, int sheet, int sort, int... want) {
    if (x.count(0) == 0) {
      Land.program(x, "in a;out a;go 0");
    }
    check.due("shelf", x.shelf(0, sheet, sort, 0, want.length), want.length);
    x.run(0, 2000);
    check.due("numbers", x.programOf(0, 5), want.length);
    for (int i = 0; i < want.length; i++) {
      check.due("item " + i + " of " + sheet, x.file(0, i, true), want[i]);
    }
  }

  private static void promise42Cell() {
    TwoDigits x = new TwoDigits();
    x.sheet(0, 0, 6);
    x.sheet(1, 1, 6);
    x.sheet(2, 2, 6);
    int[] given = {127, 128, 255, 256 + 44, -256 + 5, 65536 * 3 + 7};
    int[][] want = {
      {127, 0, 0, 44, 5, 7}, {127, 128, 255, 300, 0, 7}, {127, 128, 255, 300, 0, 6615}};
    for (int sheet = 0; sheet < 3; sheet++) {
      for (int i = 0; i < 6; i++) {
        check.due("cell", x.cell(sheet, i, given[i]), 1);
      }
      items(x, sheet, sheet, want[sheet]);
    }
    check.due("cell", x.cell(1, 0, 32768), 1);
    check.due("cell", x.cell(1, 1, 40000 + 65536), 1);
    check.due("cell", x.cell(1, 2, -40000), 1);
    items(x, 1, 1, 0, 0, 5536);
    check.due("no such sheet", x.cell(3, 0, 1), -2);
    check.due("no such sheet", x.cell(-1, 0, 1), -2);
    check.due("no such item", x.cell(0, 6, 1), -12);
    check.due("no such item", x.cell(0, -1, 1), -12);
    check.due("no such item", x.cell(2, Integer.MAX_VALUE, 1), -12);
    x.sheet(0, -1, 0);
    check.due("missing", x.cell(0, -1, 1), -11);
  }

  private static TwoDigits filled() {
    TwoDigits x = new TwoDigits();
    x.sheet(0, 2, 5);
    x.sheet(1, 2, 5);
    for (int i = 0; i < 5; i++) {
      x.cell(0, i, 1 + i);
      x.cell(1, i, 10 + i);
    }
    return x;
  }

  private static void promise43Copy() {
    TwoDigits x = filled();
    check.due("to another", x.copy(0, 1, 1, 2, 3), 3);
    items(x, 1, 2, 10, 11, 2, 3, 4);
    items(x, 0, 2, 1, 2, 3, 4, 5);
    check.due("onwards", x.copy(0, 0, 0, 1, 4), 4);
    items(x, 0, 2, 1, 1, 2, 3, 4);
    check.due("back", x.copy(0, 1, 0, 0, 4), 4);
    items(x, 0, 2, 1, 2, 3, 4, 4);
    check.due("none", x.copy(0, 5, 1, 5, 0), 0);
    check.due("all", x.copy(0, 0, 1, 0, 5), 5);
    items(x, 1, 2, 1, 2, 3, 4, 4);
    check.due("onto itself", x.copy(1, 0, 1, 0, 5), 5);
    items(x, 1, 2, 1, 2, 3, 4, 4);
  }

  private static void promise43Refusals() {
    TwoDigits x = filled();
    check.due("no such sheet", x.copy(3, 0, 0, 0, 1), -2);
    check.due("no such sheet", x.copy(-1, 0, 2, 0, 1), -2);
    check.due("no such sheet", x.copy(2, 0, 3, 0, 1), -2);
    check.due("no such sheet", x.copy(0, 0, -1, 0, 1), -2);
    check.due("missing", x.copy(0, 0, 2, 0, -1), -11);
    check.due("missing", x.copy(2, 0, 0, 0, 1), -11);
    check.due("missing to itself", x.copy(2, 0, 2, 0, 0), -11);
    x.sheet(2, 1, 5);
    check.due("another sort", x.copy(0, 0, 2, 0, -1), -13);
    check.due("another sort", x.copy(2, 9, 0, 0, 1), -13);
    check.due("n below 0", x.copy(0, 0, 1, 0, -1), -12);
    check.due("i below 0", x.copy(0, -1, 1, 0, 1), -12);
    check.due("j below 0", x.copy(0, 0, 1, -1, 1), -12);
    check.due("beyond the one", x.copy(0, 3, 1, 0, 3), -12);
    check.due("beyond the other", x.copy(0, 0, 1, 3, 3), -12);
    check.due("i beyond", x.copy(0, 6, 1, 0, 0), -12);
    check.due("j beyond", x.copy(0, 0, 1, 6, 0), -12);
    check.due("far beyond", x.copy(0, 1, 1, 1, Integer.MAX_VALUE), -12);
    check.due("far beyond", x.copy(0, Integer.MAX_VALUE, 1, 0, Integer.MAX_VALUE), -12);
    check.due("far below", x.copy(0, Integer.MIN_VALUE, 1, 0, Integer.MIN_VALUE), -12);
    items(x, 1, 2, 10, 11, 12, 13, 14);
    check.due("the last", x.copy(0, 4, 1, 4, 1), 1);
    items(x, 1, 2, 10, 11, 12, 13, 5);
  }
}
