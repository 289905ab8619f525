import java.util.ArrayList;
import java.util.List;

/**
 * "What is answered so changes nothing": two lands alike, in one of which a call is refused, answer all
 * that is asked of them alike from then on.
 */
public final class RefusedTest {
  private static final String[] REFUSED = {
    "feed(101, 5) BAD", "feed(101, -1) BAD", "programOf(3, 0) -5", "programOf(0, 11) -5", "field(0, 6, 0) -5",
    "field(3, 0, 0) -5", "field(0, 0, 3) -5", "set(3, 0, 1) NONE", "set(0, 2, 1) NONE", "set(0, 0, 100) BAD",
    "set(1, 1, -1) BAD", "input(3, 0) NONE", "input(0, 3) NONE", "input(0, 0) BAD", "input(1, 1) BAD",
    "shelf(3, 0, 2, 0, 1) NONE", "shelf(0, 3, 2, 0, 1) NONE", "shelf(0, 0, 3, 0, 1) NONE", "shelf(0, 0, 2, 0, 13) BAD",
    "shelf(0, 0, 2, 0, -1) BAD", "shelf(0, 0, 1, 0, 1) -13", "shelf(0, 2, 2, 0, 1) -11", "shelf(0, 0, 2, 0, 6) -12",
    "shelf(0, 0, 2, -1, 1) -12", "run(3, 2000) NONE", "run(0, 1899) BAD", "run(2, 2100) BAD", "file(0, 12, false) -5",
    "file(3, 0, true) -5", "done(0, 3) -5", "done(3, 0) -5", "leaps(2100, 0) NONE", "leaps(2000, 3) NONE",
    "meant(100, 0) NONE", "meant(0, 101) NONE", "night(1899) BAD", "night(2100) BAD", "reach(3) NONE",
    "cross(0, 1, 2) NONE", "cross(1, 0, 0) NONE", "does(3, 0, 0, 2) NONE", "does(0, 8, 0, 2) NONE",
    "does(0, 0, 0, 4) NONE", "does(0, 0, 1000, 2) BAD", "does(0, 0, 0, 0) STATE", "does(0, 0, 0, 1) STATE",
    "does(0, 0, 0, 3) STATE", "does(2, 0, 0, 2) STATE", "mend(3, 0, 0, 0, 2, 5) NONE", "mend(0, 0, 0, 6, 2, 5) NONE",
    "mend(0, 8, 0, 0, 2, 5) NONE", "mend(0, 0, 1000, 0, 2, 5) BAD", "mend(0, 0, 0, 0, 3, 5) BAD",
    "mend(0, 0, 0, 0, 2, 101) BAD", "mend(2, 0, 0, 0, 2, 5) STATE", "mend(1, 0, 0, 0, 2, 5) STATE",
    "mendRule(3, 0, 0, 2) NONE", "mendRule(0, 8, 0, 2) NONE", "mendRule(0, 0, -1, 2) BAD", "mendRule(0, 0, 0, 3) BAD",
    "mendRule(2, 0, 0, 2) STATE", "mendRule(1, 0, 0, 2) STATE", "test(3, 0, 0, 2000) NONE", "test(0, 8, 0, 2000) NONE",
    "test(0, 0, 1000, 2000) BAD", "test(0, 0, 0, 2100) BAD", "test(1, 0, 0, 2000) STATE", "test(2, 0, 0, 2000) STATE",
    "book(99, 0) -5", "book(0, 4) -5", "breaks(3, 0, 2, 5, 0) NONE", "breaks(0, 6, 2, 5, 0) NONE",
    "breaks(0, 0, 4, 5, 2) NONE", "breaks(0, 0, 3, 5, 0) BAD", "breaks(0, 0, 4, 101, 0) BAD", "chip(101, 0) BAD",
    "chip(0, 3) BAD", "ask(2, 2000) NONE", "ask(0, 2100) BAD", "ask(1, 1999) FULL", "fit(2, 0) NONE", "fit(0, 4) NONE",
    "sign(3, 1, false, 0, 1) NONE", "sign(0, 1, false, 6, 1) NONE", "sign(0, 9, false, 0, 8) BAD",
    "sign(0, 9, false, 0, 1000) BAD", "knew(3, 0, 0) -5", "knew(0, 6, 0) -5", "knew(0, 0, 1000) -5",
    "testYear(1899) BAD", "testYear(2005) FULL", "fault(3, 0, 4, 0) NONE", "fault(0, 6, 4, 0) NONE",
    "fault(0, 0, 3, 0) BAD", "fault(0, 0, 4, 101) BAD", "fault(0, 1, 4, 0) FULL", "shows(8, 0) NONE", "shows(0, 8) NONE",
    "cover(2) NONE", "first(8, 0, 2000, 0) NONE", "first(1, 0, 2000, 3) NONE", "first(1, 1000, 2000, 0) BAD",
    "first(1, 0, 2100, 0) BAD", "beside(1899) BAD", "stop(100, 0, 1, 0) BAD", "stop(0, 900, 1, 9) BAD",
    "stop(0, 0, 0, 9) BAD", "stop(0, 0, 1, 100) BAD", "stop(0, 0, 1, 99) FULL", "posts(0, 0) BAD", "posts(1, 5) NONE",
    "posts(1, 3) NONE", "thing(7, 0) BAD", "thing(0, 100) BAD", "trace(9) NONE", "taken(0, 7) BAD", "taken(40, 0) -11",
    "taken(1, 1) -13", "count(14) BAD", "sheet(3, 0, 1) BAD", "sheet(0, 3, 1) BAD", "sheet(0, 2, 41) BAD",
    "sheet(0, 2, -1) -14", "cell(3, 0, 1) BAD", "cell(2, 0, 1) -11", "cell(0, 5, 1) -12", "cell(0, -1, 1) -12",
    "copy(3, 0, 0, 0, 1) BAD", "copy(0, 0, 2, 0, 1) -11", "copy(0, 0, 1, 0, 1) -13", "copy(0, 0, 0, 1, 5) -12",
    "copy(0, -1, 0, 0, 1) -12"};

  private static final String[] BUILT = {
    "input(1, 0)", "input(2, 1)", "set(0, 0, 3)", "set(1, 0, 5)", "set(2, 0, 7)", "set(0, 1, 2)", "set(2, 1, 4)",
    "sheet(0, 2, 5)", "cell(0, 0, 1999)", "cell(0, 1, 2004)", "cell(0, 4, 77)", "sheet(1, 1, 3)", "cell(1, 1, 60)",
    "shelf(0, 0, 2, 0, 3)", "does(0, 1, 2, 0)", "mend(0, 2, 3, 1, 2, 40)", "mendRule(0, 3, 4, 1)", "night(2004)",
    "run(0, 1999)", "does(2, 4, 5, 2)", "run(2, 1987)", "chip(40, 1)", "ask(0, 1950)", "chip(60, 2)", "sign(0, 5, true, 0, 6)",
    "sign(0, 4, false, 0, 9)", "thing(5, 3)", "thing(0, 7)", "act(0, 2, 4)"};

  private RefusedTest() {
  }

  public static void main(String[] args) {
    Check check = new Check("RefusedTest");
    List<Integer> before = look(built());
    for (String row : REFUSED) {
      int end = row.indexOf(')');
      String call = row.substring(0, end);
      TwoDigits x = built();
      check.due(call + ")", Script.answer(x, call), Script.number(row.substring(end + 2)));
      List<Integer> after = look(x);
      for (int i = 0; i < before.size(); i++) {
        check.due("after " + row + ", look " + i, after.get(i), before.get(i));
      }
    }
    check.finish();
  }

  private static TwoDigits built() {
    TwoDigits x = Land.with("now a;in b;if a<b 5;out a;go 6;out b;in c;add a c;leap a 9;out c",
        "in d;set e 50;if d<e 4;out d;out e", "now f;out f;in a;out a");
    for (String call : BUILT) {
      Script.answer(x, call.substring(0, call.length() - 1));
    }
    for (int i = 0; i < 8; i++) {
      x.testYear(1995 + i);
      x.fault(i % 3, i % 6, 2 + 2 * (i % 2), 10 * i);
      x.stop(5 * i % 7, 9 * i, 8, 1 + i * i % 5);
    }
    for (int i = 0; i < 30; i++) {
      x.ask(1, 2000 + i);
    }
    Land.feed(x, "now b;");
    return x;
  }

  /** All that can be asked; what changes the land by being asked comes last. */
  private static List<Integer> look(TwoDigits x) {
    List<Integer> seen = new ArrayList<>();
    for (int p = 0; p < 3; p++) {
      lookAt(x, p, seen);
    }
    for (int what = 0; what < 14; what++) {
      seen.add(x.count(what));
    }
    for (int i = 0; i < 12; i++) {
      seen.add(x.book(i / 4, i % 4));
      seen.add(x.trace(i));
      seen.add(x.fit(i / 4 % 2, i % 4));
      seen.add(x.posts(3, i % 5));
    }
    for (int i = 0; i < 8; i++) {
      seen.add(x.shows(i, 7 - i));
      seen.add(x.first(i, 5, 2003, 1));
      seen.add(x.knew(0, i % 2, 4 + i));
    }
    seen.add(x.cover(0));
    seen.add(x.cover(1));
    seen.add(x.beside(2000));
    lookBehind(x, seen);
    return seen;
  }

  private static void lookAt(TwoDigits x, int p, List<Integer> seen) {
    for (int what = 0; what <= 10; what++) {
      seen.add(x.programOf(p, what));
    }
    for (int i = 0; i < 18; i++) {
      seen.add(x.field(p, i / 3, i % 3));
    }
    for (int i = 0; i < 4; i++) {
      seen.add(x.file(p, i, false));
      seen.add(x.file(p, i, true));
      seen.add(x.done(p, i));
    }
    seen.add(x.reach(p));
    seen.add(x.breaks(p, p, 4, 20, 0));
  }

  private static void lookBehind(TwoDigits x, List<Integer> seen) {
    seen.add(x.ask(0, 1939));
    seen.add(x.fit(0, 1));
    seen.add(x.thing(6, 9));
    seen.add(x.act(0, 2, 3));
    seen.add(Land.program(x, "out b"));
    seen.add(x.run(3, 1999));
    seen.add(x.chip(5, 1));
    seen.add(x.sign(1, 2, true, 3, 4));
    seen.add(x.test(0, 6, 7, 2001));
    seen.add(x.does(2, 6, 7, 3));
    seen.add(x.night(2008));
    seen.add(x.count(6));
    seen.add(Land.program(x, "in a;out a;go 0"));
    for (int sheet = 0; sheet < 3; sheet++) {
      for (int sort = 0; sort < 3; sort++) {
        seen.add(x.shelf(4, sheet, sort, 0, 3));
        seen.add(x.shelf(4, sheet, sort, 0, 5));
      }
      seen.add(x.run(4, 2000));
      for (int i = 0; i < 6; i++) {
        seen.add(x.file(4, i, true));
      }
    }
  }
}
