import java.util.Random;

/** Runs of calls by chance (always the same chance), each answer beside that of the Model. */
public final class AgainstModelTest {
  private static final int MOST_CALLS = 512;
  private static final int[] EDGES = {-1, -2, 1, 2, Integer.MIN_VALUE, Integer.MAX_VALUE};

  private final Check check;
  private final Random chance;
  private final String name;
  private final TwoDigits x = new TwoDigits();
  private final Model y = new Model();
  private int calls;

  private AgainstModelTest(Check check, String name, long seed) {
    this.check = check;
    this.name = name;
    this.chance = new Random(seed);
  }

  public static void main(String[] args) {
    Check check = new Check("AgainstModelTest");
    for (int seed = 0; seed < 160; seed++) {
      new AgainstModelTest(check, "all " + seed, seed).mixed();
      new AgainstModelTest(check, "runs " + seed, 1000 + seed).runs();
      new AgainstModelTest(check, "nights " + seed, 2000 + seed).nights();
      new AgainstModelTest(check, "others " + seed, 3000 + seed).others();
      new AgainstModelTest(check, "tapes " + seed, 4000 + seed).tapes();
    }
    check.finish();
  }

  // ---- what is asked

  private void mixed() {
    while (calls < MOST_CALLS - 80) {
      switch (chance.nextInt(12)) {
        case 0: program(chance.nextInt(8) == 0); break;
        case 1: case 2: case 3: setUp(); break;
        case 4: case 5: case 6: states(); break;
        case 7: running(); break;
        case 8: chipsAndPapers(); break;
        case 9: cover(); break;
        case 10: thingsAndSheets(); break;
        default: look(); break;
      }
    }
  }

  private void runs() {
    for (int i = 0; i < 4; i++) {
      program(false);
      shelf();
    }
    while (calls < MOST_CALLS - 40) {
      switch (chance.nextInt(6)) {
        case 0: setUp(); break;
        case 1: states(); break;
        case 2: running(); break;
        default: look(); break;
      }
    }
  }

  private void nights() {
    int many = 2 + chance.nextInt(4);
    for (int i = 0; i < many; i++) {
      program(false);
      shelf();
      due("input", x.input(i, i - 1), y.input(i, i - 1));
      int w = chance.nextInt(10);
      due("set", x.set(i, 0, w), y.set(i, 0, w));
      int d = chance.nextInt(4);
      due("set", x.set(i, 1, d), y.set(i, 1, d));
    }
    while (calls < MOST_CALLS - 80) {
      switch (chance.nextInt(5)) {
        case 0: setUp(); break;
        case 1: states(); break;
        case 2: night(); break;
        case 3: cover(); break;
        default: look(); break;
      }
    }
  }

  private void others() {
    while (calls < MOST_CALLS - 20) {
      if (chance.nextInt(40) == 0) {
        program(false);
      } else if (chance.nextBoolean()) {
        chipsAndPapers();
      } else {
        thingsAndSheets();
      }
    }
  }

  private void tapes() {
    while (calls < MOST_CALLS - 80) {
      program(chance.nextInt(3) > 0);
      if (y.count(0) == 12 && chance.nextInt(4) == 0) {
        return;
      }
    }
  }

  // ---- groups of calls

  private void program(boolean broken) {
    String text = broken ? Programs.broken(chance) : Programs.sound(chance);
    for (int i = 0; i < text.length(); ) {
      int n = 1 + chance.nextInt(4);
      int word = chance.nextInt();
      int most = Math.min(n, text.length() - i);
      for (int k = 0; k < most; k++) {
        word = word << 8 | text.charAt(i + k) & 255;
      }
      due("feed", x.feed(word, most), y.feed(word, most));
      i += most;
    }
    if (chance.nextInt(20) == 0) {
      int n = chance.nextInt(8) - 2;
      due("feed", x.feed(5, n), y.feed(5, n));
    }
    due("program " + text, x.program(), y.program());
  }

  private void setUp() {
    int p = prog();
    switch (chance.nextInt(4)) {
      case 0: {
        int from = chance.nextInt(3) == 0 ? -1 : prog();
        due("input", x.input(p, from), y.input(p, from));
        break;
      }
      case 1: {
        int what = upTo(2);
        int v = upTo(100);
        due("set", x.set(p, what, v), y.set(p, what, v));
        break;
      }
      default: shelf(); break;
    }
  }

  private void shelf() {
    int p = prog();
    int sheet = upTo(3);
    int sort = upTo(3);
    int n = upTo(13);
    if (chance.nextInt(3) > 0) {
      due("sheet", x.sheet(sheet, sort, n), y.sheet(sheet, sort, n));
      for (int i = 0; i < Math.min(5, n); i++) {
        int v = number();
        due("cell", x.cell(sheet, i, v), y.cell(sheet, i, v));
      }
    }
    int i = chance.nextInt(3) == 0 ? upTo(4) : 0;
    due("shelf", x.shelf(p, sheet, sort, i, n), y.shelf(p, sheet, sort, i, n));
  }

  private void states() {
    int p = prog();
    int hand = upTo(8);
    int day = upTo(1000);
    switch (chance.nextInt(8)) {
      case 0: case 1: {
        int field = upTo(6);
        int digits = digits();
        int pivot = pivot();
        due("mend", x.mend(p, hand, day, field, digits, pivot), y.mend(p, hand, day, field, digits, pivot));
        break;
      }
      case 2: {
        int rule = upTo(3);
        due("mendRule", x.mendRule(p, hand, day, rule), y.mendRule(p, hand, day, rule));
        break;
      }
      case 3: case 4: {
        int year = year();
        due("test", x.test(p, hand, day, year), y.test(p, hand, day, year));
        break;
      }
      default: {
        int what = chance.nextInt(3) == 0 ? upTo(4) : 3 - Math.min(3, chance.nextInt(6));
        due("does", x.does(p, hand, day, what), y.does(p, hand, day, what));
        break;
      }
    }
    if (chance.nextInt(3) == 0) {
      int i = upTo(Math.max(1, y.count(6)));
      int what = upTo(4);
      due("book", x.book(i, what), y.book(i, what));
    }
  }

  private void running() {
    int p = prog();
    int year = year();
    switch (chance.nextInt(12)) {
      case 0: {
        int first = prog();
        int what = upTo(2);
        due("cross", x.cross(first, p, what), y.cross(first, p, what));
        break;
      }
      case 1: {
        int rule = upTo(3);
        due("leaps", x.leaps(year, rule), y.leaps(year, rule));
        break;
      }
      case 2: due("reach", x.reach(p), y.reach(p)); break;
      case 3: {
        int v = upTo(100);
        int pivot = upTo(101);
        due("meant", x.meant(v, pivot), y.meant(v, pivot));
        break;
      }
      case 4: {
        int field = upTo(6);
        int digits = digits();
        int pivot = pivot();
        int what = upTo(2);
        due("breaks", x.breaks(p, field, digits, pivot, what), y.breaks(p, field, digits, pivot, what));
        break;
      }
      default: due("run", x.run(p, year), y.run(p, year)); break;
    }
  }

  private void night() {
    int year = year();
    switch (chance.nextInt(6)) {
      case 0: case 1: due("night", x.night(year), y.night(year)); break;
      case 2: due("beside", x.beside(year), y.beside(year)); break;
      case 3: {
        int p = prog();
        due("run", x.run(p, year), y.run(p, year));
        break;
      }
      default: {
        int set = chance.nextInt(1 << Math.max(1, y.count(0)));
        set = chance.nextInt(12) == 0 ? edge(set) : set;
        int days = chance.nextInt(12) == 0 ? upTo(1000) : chance.nextInt(8);
        int what = upTo(3);
        due("first", x.first(set, days, year, what), y.first(set, days, year, what));
        break;
      }
    }
  }

  private void chipsAndPapers() {
    int chip = upTo(Math.max(1, y.count(1)));
    switch (chance.nextInt(6)) {
      case 0: {
        int pivot = upTo(101);
        int rule = upTo(3);
        due("chip", x.chip(pivot, rule), y.chip(pivot, rule));
        break;
      }
      case 1: {
        int year = year();
        due("ask", x.ask(chip, year), y.ask(chip, year));
        break;
      }
      case 2: case 3: {
        int what = upTo(4);
        due("fit", x.fit(chip, what), y.fit(chip, what));
        break;
      }
      case 4: {
        int p = prog();
        int day = upTo(20);
        int known = day + upTo(9);
        boolean holds = chance.nextBoolean();
        int office = upTo(6);
        due("sign", x.sign(p, day, holds, office, known), y.sign(p, day, holds, office, known));
        break;
      }
      default: {
        int p = prog();
        int office = upTo(6);
        int day = chance.nextInt(10) == 0 ? upTo(1000) : upTo(28);
        due("knew", x.knew(p, office, day), y.knew(p, office, day));
        break;
      }
    }
  }

  private void cover() {
    switch (chance.nextInt(8)) {
      case 0: {
        int year = year();
        due("testYear", x.testYear(year), y.testYear(year));
        break;
      }
      case 1: {
        int p = prog();
        int field = upTo(6);
        int digits = digits();
        int pivot = pivot();
        due("fault", x.fault(p, field, digits, pivot), y.fault(p, field, digits, pivot));
        break;
      }
      case 2: {
        int test = upTo(Math.max(1, y.count(8)));
        int fault = upTo(Math.max(1, y.count(9)));
        due("shows", x.shows(test, fault), y.shows(test, fault));
        break;
      }
      case 3: {
        int what = upTo(2);
        due("cover", x.cover(what), y.cover(what));
        break;
      }
      case 4: case 5: {
        int place = upTo(100);
        int minute = chance.nextInt(3) == 0 ? upTo(900) : place + chance.nextInt(120);
        int lasts = upTo(40);
        int weight = upTo(chance.nextBoolean() ? 4 : 100);
        due("stop", x.stop(place, minute, lasts, weight), y.stop(place, minute, lasts, weight));
        break;
      }
      default: {
        int hands = 1 + upTo(3);
        int what = upTo(5);
        due("posts", x.posts(hands, what), y.posts(hands, what));
        break;
      }
    }
  }

  private void thingsAndSheets() {
    int thing = upTo(Math.max(1, y.count(2)));
    switch (chance.nextInt(9)) {
      case 0: {
        int kind = upTo(7);
        int size = upTo(100);
        due("thing", x.thing(kind, size), y.thing(kind, size));
        break;
      }
      case 1: case 2: {
        int act = upTo(3);
        int n = chance.nextInt(5) == 0 ? chance.nextInt() : chance.nextInt(200) - 100;
        due("act", x.act(thing, act, n), y.act(thing, act, n));
        for (int i = 0; i < 4; i++) {
          int at = upTo(10);
          due("trace", x.trace(at), y.trace(at));
        }
        break;
      }
      case 3: {
        int k = upTo(7);
        due("taken", x.taken(thing, k), y.taken(thing, k));
        break;
      }
      case 4: case 5: {
        int sheet = upTo(3);
        int sort = upTo(3);
        int n = upTo(41);
        due("sheet", x.sheet(sheet, sort, n), y.sheet(sheet, sort, n));
        break;
      }
      case 6: {
        int sheet = upTo(3);
        int i = upTo(41);
        int v = number();
        due("cell", x.cell(sheet, i, v), y.cell(sheet, i, v));
        break;
      }
      case 7: {
        int sheet = upTo(3);
        int i = upTo(20);
        int other = upTo(3);
        int j = upTo(20);
        int n = upTo(20);
        due("copy", x.copy(sheet, i, other, j, n), y.copy(sheet, i, other, j, n));
        break;
      }
      default: {
        program(false);
        int p = y.count(0) - 1;
        int sheet = upTo(3);
        int sort = upTo(3);
        int i = upTo(30);
        due("shelf", x.shelf(p, sheet, sort, i, 12), y.shelf(p, sheet, sort, i, 12));
        due("run", x.run(p, 2000), y.run(p, 2000));
        for (int k = 0; k < 12; k++) {
          due("file", x.file(p, k, true), y.file(p, k, true));
        }
        break;
      }
    }
  }

  private void look() {
    int p = prog();
    int what = upTo(11);
    due("programOf", x.programOf(p, what), y.programOf(p, what));
    int i = upTo(5);
    due("file", x.file(p, i, false), y.file(p, i, false));
    due("twin file", x.file(p, i, true), y.file(p, i, true));
    int some = upTo(3);
    due("done", x.done(p, some), y.done(p, some));
    int field = upTo(6);
    due("field", x.field(p, field, some), y.field(p, field, some));
    int kind = upTo(14);
    due("count", x.count(kind), y.count(kind));
  }

  // ---- numbers by chance

  private int prog() {
    return upTo(Math.max(1, y.count(0)));
  }

  /** Mostly 0 .. n - 1, now and then a number beyond either end. */
  private int upTo(int n) {
    if (chance.nextInt(30) == 0) {
      return edge(n);
    }
    return chance.nextInt(n);
  }

  private int edge(int n) {
    int edge = EDGES[chance.nextInt(EDGES.length)];
    return edge == 1 ? n - 1 : edge == 2 ? n : edge;
  }

  private int year() {
    switch (chance.nextInt(12)) {
      case 0: return 1900;
      case 1: return 2000;
      case 2: return 1999;
      case 3: return 2099;
      case 4: return chance.nextInt(4) == 0 ? 1899 + 201 * chance.nextInt(2) : 1996;
      default: return 1900 + chance.nextInt(200);
    }
  }

  private int digits() {
    return chance.nextInt(20) == 0 ? chance.nextInt(6) : 2 + 2 * chance.nextInt(2);
  }

  private int pivot() {
    return chance.nextInt(3) == 0 ? -1 : upTo(101);
  }

  private int number() {
    switch (chance.nextInt(6)) {
      case 0: return chance.nextInt();
      case 1: return chance.nextInt(5) - 3;
      case 2: return 1900 + chance.nextInt(200);
      case 3: return 9990 + chance.nextInt(20);
      default: return chance.nextInt(130);
    }
  }

  private void due(String call, long got, long want) {
    calls++;
    check.due(name + ", call " + calls + ": " + call, got, want);
  }
}
