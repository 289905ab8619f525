/**
 * A land whose programs keep years by two figures, each beside a twin that keeps every figure.
 * What it must do is told in ../shared/DOC.md; the names here are the words of that document.
 */
public final class TwoDigits {
  public static final int NONE = -1, BAD = -2, STATE = -3, FULL = -4;

  private static final int NO_SUCH = -5;
  private static final int NO_PROGRAM_READ = -10;
  private static final int MISSING = -11;
  private static final int NO_ITEM = -12;
  private static final int OTHER_SORT = -13;
  private static final int BELOW_ZERO = -14;

  private static final int MOST_PROGRAMS = 12;
  private static final int MOST_CHIPS = 6;
  private static final int MOST_SHEETS = 3;
  private static final int MOST_TOLD = 8;
  private static final int MOST_IN_BOOK = 200;
  private static final int MOST_PAPERS = 60;
  private static final int MOST_ASKED = 30;
  private static final int MOST_LINES_DONE = 150;

  private static final int HANDS = 8;
  private static final int OFFICES = 6;
  private static final int FIELDS = 6;
  private static final int FIRST_YEAR = 1900;
  private static final int LAST_YEAR = 2099;
  private static final int LAST_DAY = 999;
  private static final int LAST_MINUTE = 899;
  private static final int MOST_PIVOT = 100;
  private static final int RULES = 3;

  private static final int UNREAD = 0, READ = 1, MENDED = 2, TESTED = 3, IN_USE = 4, OFF = 5;
  private static final int ENDED = 0, STOPPED = 1, LOOPS = 2;
  private static final int ALL = -1;
  private static final int OTHER_FILE = 1, OTHER_END = 2;
  private static final int YEAR = 0, SHOWN = 1;

  private final Tape tape = new Tape();
  private Code draft = new Code();
  private final Program[] programs = new Program[MOST_PROGRAMS];
  private int programCount;
  private int runsMade;
  private final Setting asAtFirst = new Setting(false);
  private final Setting asTwins = new Setting(true);
  private final Setting altered = new Setting(false);
  private final Runner ours = new Runner();
  private final Runner others = new Runner();
  private final Table theBook = new Table(MOST_IN_BOOK, 4);
  private final Chip[] chips = new Chip[MOST_CHIPS];
  private int chipCount;
  private final Table papers = new Table(MOST_PAPERS, 5);
  private final Table tests = new Table(MOST_TOLD, 2);
  private final Table faults = new Table(MOST_TOLD, 4);
  private final Posts manned = new Posts();
  private final Things things = new Things();
  private final Sheet[] sheets = {new Sheet(), new Sheet(), new Sheet()};

  public TwoDigits() {
  }

  // ---- programs

  public int feed(int bytes, int n) {
    if (n < 0 || n > 4) {
      return BAD;
    }
    return tape.take(bytes, n) ? tape.size : FULL;
  }

  public int program() {
    if (programCount >= MOST_PROGRAMS) {
      return FULL;
    }
    int fault = tape.readAll(draft);
    tape.size = 0;
    if (fault != NONE) {
      return NO_PROGRAM_READ - fault;
    }
    programs[programCount] = new Program(draft);
    draft = new Code();
    programCount++;
    return programCount - 1;
  }

  public int programOf(int program, int what) {
    Program p = programAt(program);
    if (p == null) {
      return NO_SUCH;
    }
    switch (what) {
      case 0: return p.state;
      case 1: return p.source;
      case 2: return p.setting.rule;
      case 3: return p.code.size;
      case 4: return p.written.size;
      case 5: return p.twin.size;
      case 6: return p.end;
      case 7: return p.twinEnd;
      case 8: return p.weight;
      case 9: return p.days;
      case 10: return p.wrong ? 1 : 0;
      default: return NO_SUCH;
    }
  }

  public int field(int program, int field, int what) {
    Program p = programAt(program);
    if (p == null || !isField(field)) {
      return NO_SUCH;
    }
    switch (what) {
      case 0: return p.setting.digits[field];
      case 1: return p.setting.pivots[field];
      case 2: return yearIn(p, field);
      default: return NO_SUCH;
    }
  }

  public int set(int program, int what, int v) {
    Program p = programAt(program);
    if (p == null || what < 0 || what > 1) {
      return NONE;
    }
    if (!isWithin(v, 0, 99)) {
      return BAD;
    }
    int before = what == 0 ? p.weight : p.days;
    if (what == 0) {
      p.weight = v;
    } else {
      p.days = v;
    }
    return before;
  }

  public int input(int program, int from) {
    Program p = programAt(program);
    if (p == null || (from != NONE && programAt(from) == null)) {
      return NONE;
    }
    if (from == program) {
      return BAD;
    }
    int before = p.source;
    p.source = from;
    return before;
  }

  public int shelf(int program, int sheet, int sort, int i, int n) {
    Program p = programAt(program);
    Sheet from = sheetAt(sheet);
    if (p == null || from == null || !isWithin(sort, 0, 2)) {
      return NONE;
    }
    if (!isWithin(n, 0, Row.MOST)) {
      return BAD;
    }
    if (n > 0) {
      int refusal = refusalToTake(from, sort, i, n);
      if (refusal != 0) {
        return refusal;
      }
    }
    p.shelved.clear();
    for (int k = 0; k < n; k++) {
      p.shelved.add(readFromShelf(from.item(i + k)));
    }
    return n;
  }

  private static int refusalToTake(Sheet from, int sort, int i, int n) {
    if (from.sort != NONE && from.sort != sort) {
      return OTHER_SORT;
    }
    if (from.sort == NONE) {
      return MISSING;
    }
    return from.hasItems(i, n) ? 0 : NO_ITEM;
  }

  /** A number below 0 is BLANK on the SHELF; only as 0 does anybody ever see it, so it is kept as 0. */
  private static int readFromShelf(int number) {
    return number < 0 ? 0 : number % 10000;
  }

  // ---- runs

  public int run(int program, int year) {
    Program p = programAt(program);
    if (p == null) {
      return NONE;
    }
    if (!isYear(year)) {
      return BAD;
    }
    makeRun(p, year);
    return p.end;
  }

  public int file(int program, int i, boolean twin) {
    Program p = programAt(program);
    if (p == null) {
      return NO_SUCH;
    }
    Row row = twin ? p.twin : p.written;
    return row.has(i) ? row.get(i) : NO_SUCH;
  }

  public int done(int program, int what) {
    Program p = programAt(program);
    if (p == null) {
      return NO_SUCH;
    }
    switch (what) {
      case 0: return p.linesDone;
      case 1: return p.twinLinesDone;
      case 2: return p.parts;
      default: return NO_SUCH;
    }
  }

  public int leaps(int year, int rule) {
    if (!isYear(year) || !isRule(rule)) {
      return NONE;
    }
    return isLeap(year, rule) ? 1 : 0;
  }

  public int meant(int number, int pivot) {
    if (!isWithin(number, 0, 99) || !isWithin(pivot, 0, MOST_PIVOT)) {
      return NONE;
    }
    return inWindow(number, pivot);
  }

  public int night(int year) {
    if (!isYear(year)) {
      return BAD;
    }
    int harm = 0;
    for (int i = 0; i < programCount; i++) {
      Program p = programs[i];
      if (p.state == OFF) {
        p.written.clear();
        p.twin.clear();
        p.forgetRun();
      } else {
        makeRun(p, year);
      }
      if (p.state == OFF || p.wrong) {
        harm += p.weight;
      }
    }
    return harm;
  }

  public int reach(int program) {
    if (programAt(program) == null) {
      return NONE;
    }
    int reached = 0;
    for (int round = 0; round < programCount; round++) {
      for (int i = 0; i < programCount; i++) {
        int source = programs[i].source;
        if (source == program || hasBit(reached, source)) {
          reached |= 1 << i;
        }
      }
    }
    return reached;
  }

  public int cross(int first, int second, int what) {
    Program writer = programAt(first);
    Program reader = programAt(second);
    if (writer == null || reader == null || what < 0 || what > 1 || reader.source != first) {
      return NONE;
    }
    int many = 0;
    int least = NONE;
    for (int number = 99; number >= 0; number--) {
      if (isCrossed(writer, reader, number)) {
        many++;
        least = number;
      }
    }
    return what == 0 ? many : least;
  }

  private static boolean isCrossed(Program writer, Program reader, int number) {
    for (int out = 0; out < FIELDS; out++) {
      for (int in = 0; in < FIELDS; in++) {
        if (isTwoDigitField(writer, Code.OUT, out) && isTwoDigitField(reader, Code.IN, in)
            && writer.setting.meaning(out, number) != reader.setting.meaning(in, number)) {
          return true;
        }
      }
    }
    return false;
  }

  private static boolean isTwoDigitField(Program p, int op, int field) {
    return p.setting.digits[field] == 2 && p.code.uses(op, field);
  }

  // ---- states

  public int does(int program, int hand, int day, int what) {
    Program p = programAt(program);
    if (p == null || !isHand(hand) || !isWithin(what, 0, 3)) {
      return NONE;
    }
    if (!isDay(day)) {
      return BAD;
    }
    int next = stateAfter(p, what);
    if (next == STATE) {
      return STATE;
    }
    if (next == OFF) {
      p.stateBeforeOff = p.state;
      p.forgetRun();
    }
    p.state = next;
    return intoBook(p, program, hand, day);
  }

  private static int stateAfter(Program p, int what) {
    switch (what) {
      case 0: return p.state == UNREAD ? READ : STATE;
      case 1: return p.state == TESTED ? IN_USE : STATE;
      case 2: return p.state != OFF ? OFF : STATE;
      default: return p.state == OFF ? p.stateBeforeOff : STATE;
    }
  }

  public int mend(int program, int hand, int day, int field, int digits, int pivot) {
    Program p = programAt(program);
    if (p == null || !isField(field) || !isHand(hand)) {
      return NONE;
    }
    if (!isDay(day) || !isKept(digits, pivot)) {
      return BAD;
    }
    if (!canBeMended(p)) {
      return STATE;
    }
    p.setting.change(field, digits, pivot);
    p.state = MENDED;
    return intoBook(p, program, hand, day);
  }

  public int mendRule(int program, int hand, int day, int rule) {
    Program p = programAt(program);
    if (p == null || !isHand(hand)) {
      return NONE;
    }
    if (!isDay(day) || !isRule(rule)) {
      return BAD;
    }
    if (!canBeMended(p)) {
      return STATE;
    }
    p.setting.rule = rule;
    p.state = MENDED;
    return intoBook(p, program, hand, day);
  }

  private static boolean canBeMended(Program p) {
    return p.state == READ || p.state == MENDED || p.state == TESTED;
  }

  public int test(int program, int hand, int day, int year) {
    Program p = programAt(program);
    if (p == null || !isHand(hand)) {
      return NONE;
    }
    if (!isDay(day) || !isYear(year)) {
      return BAD;
    }
    if (p.state != MENDED) {
      return STATE;
    }
    makeRun(p, year);
    if (!p.wrong) {
      p.state = TESTED;
    }
    return intoBook(p, program, hand, day);
  }

  private int intoBook(Program p, int program, int hand, int day) {
    theBook.add(program, hand, day, p.state, 0);
    return p.state;
  }

  public int book(int i, int what) {
    return theBook.has(i, what) ? theBook.get(i, what) : NO_SUCH;
  }

  public int breaks(int program, int field, int digits, int pivot, int what) {
    Program p = programAt(program);
    if (p == null || !isField(field) || what < 0 || what > 1) {
      return NONE;
    }
    if (!isKept(digits, pivot)) {
      return BAD;
    }
    alter(p, field, digits, pivot);
    int many = 0;
    int earliest = NONE;
    for (int year = LAST_YEAR; year >= FIRST_YEAR; year--) {
      if ((changesByAltered(p, year) & OTHER_FILE) != 0) {
        many++;
        earliest = year;
      }
    }
    return what == 0 ? many : earliest;
  }

  private void alter(Program p, int field, int digits, int pivot) {
    altered.takeOver(p.setting);
    altered.change(field, digits, pivot);
  }

  /** Whether a PROGRAM in a YEAR has another FILE, another END with the altered setting: as bits. */
  private int changesByAltered(Program p, int year) {
    ours.begin(p.code, p.setting, inputOf(p), ours.spare, year);
    others.begin(p.code, altered, inputOf(p), others.spare, year);
    int end = ours.finish();
    int otherEnd = others.finish();
    int changes = ours.spare.isLike(others.spare) ? 0 : OTHER_FILE;
    return end == otherEnd ? changes : changes | OTHER_END;
  }

  // ---- chips, papers

  public int chip(int pivot, int rule) {
    if (!isWithin(pivot, 0, MOST_PIVOT) || !isRule(rule)) {
      return BAD;
    }
    if (chipCount >= MOST_CHIPS) {
      return FULL;
    }
    chips[chipCount] = new Chip(pivot, rule);
    chipCount++;
    return chipCount - 1;
  }

  public int ask(int chip, int year) {
    Chip c = chipAt(chip);
    if (c == null) {
      return NONE;
    }
    if (!isYear(year)) {
      return BAD;
    }
    if (c.asked >= MOST_ASKED) {
      return FULL;
    }
    return c.answer(year % 100);
  }

  public int fit(int chip, int what) {
    Chip c = chipAt(chip);
    if (c == null) {
      return NONE;
    }
    switch (what) {
      case 0: return c.fitting();
      case 1: return c.leastFitting();
      case 2: return FIRST_YEAR + c.mostParting();
      case 3: return c.mostAlike(c.mostParting());
      default: return NONE;
    }
  }

  public int sign(int program, int day, boolean holds, int office, int known) {
    if (programAt(program) == null || !isWithin(office, 0, OFFICES - 1)) {
      return NONE;
    }
    if (!isDay(day) || !isDay(known) || known < day) {
      return BAD;
    }
    return papers.add(program, day, holds ? 1 : 0, office, known);
  }

  public int knew(int program, int office, int day) {
    if (programAt(program) == null || !isWithin(office, 0, OFFICES - 1) || !isDay(day)) {
      return NO_SUCH;
    }
    int latest = NONE;
    int holds = NONE;
    for (int i = 0; i < papers.size; i++) {
      boolean isKnown = papers.get(i, 0) == program && papers.get(i, 3) == office
          && papers.get(i, 4) <= day;
      if (isKnown && papers.get(i, 1) >= latest) {
        latest = papers.get(i, 1);
        holds = papers.get(i, 2);
      }
    }
    return holds;
  }

  // ---- tests, whom first

  public int testYear(int year) {
    return isYear(year) ? tests.add(year, 0, 0, 0, 0) : BAD;
  }

  public int fault(int program, int field, int digits, int pivot) {
    if (programAt(program) == null || !isField(field)) {
      return NONE;
    }
    if (!isKept(digits, pivot)) {
      return BAD;
    }
    return faults.add(program, field, digits, pivot, 0);
  }

  public int shows(int test, int fault) {
    if (!tests.has(test, 0) || !faults.has(fault, 0)) {
      return NONE;
    }
    return isShown(test, fault) ? 1 : 0;
  }

  private boolean isShown(int test, int fault) {
    Program p = programAt(faults.get(fault, 0));
    int field = faults.get(fault, 1);
    if (p == null || !isField(field)) {
      return false;
    }
    alter(p, field, faults.get(fault, 2), faults.get(fault, 3));
    return changesByAltered(p, tests.get(test, YEAR)) != 0;
  }

  public int cover(int what) {
    if (what < 0 || what > 1) {
      return NONE;
    }
    for (int test = 0; test < tests.size; test++) {
      int shown = 0;
      for (int fault = 0; fault < faults.size; fault++) {
        shown |= isShown(test, fault) ? 1 << fault : 0;
      }
      tests.put(test, SHOWN, shown);
    }
    int all = faultsShown(ALL);
    return what == 0 ? fewestTests(all) : Integer.bitCount(all);
  }

  private int faultsShown(int some) {
    int shown = 0;
    for (int test = 0; test < tests.size; test++) {
      if (hasBit(some, test)) {
        shown |= tests.get(test, SHOWN);
      }
    }
    return shown;
  }

  private int fewestTests(int all) {
    int best = (1 << tests.size) - 1;
    for (int some = best - 1; some >= 0; some--) {
      if (Integer.bitCount(some) <= Integer.bitCount(best) && faultsShown(some) == all) {
        best = some;
      }
    }
    return best;
  }

  public int first(int programs, int days, int year, int what) {
    boolean isOfNone = programs < 0 || programs >= 1 << programCount;
    if (what < 0 || what > 2 || isOfNone) {
      return NONE;
    }
    if (Integer.bitCount(programs) > MOST_TOLD || !isDay(days) || !isYear(year)) {
      return BAD;
    }
    rehearseTwins(year, false);
    int best = bestToMend(programs, days, year);
    switch (what) {
      case 0: return rehearsedHarm(best, year, false);
      case 1: return best;
      default: return daysOf(best);
    }
  }

  private int bestToMend(int told, int days, int year) {
    int best = 0;
    int leastHarm = rehearsedHarm(0, year, false);
    int fewestDays = 0;
    for (int some = 1; some <= told; some++) {
      if ((some & ~told) != 0 || daysOf(some) > days) {
        continue;
      }
      int harm = rehearsedHarm(some, year, false);
      if (harm < leastHarm || (harm == leastHarm && daysOf(some) < fewestDays)) {
        best = some;
        leastHarm = harm;
        fewestDays = daysOf(some);
      }
    }
    return best;
  }

  private int daysOf(int some) {
    int days = 0;
    for (int i = 0; i < programCount; i++) {
      if (hasBit(some, i)) {
        days += programs[i].days;
      }
    }
    return days;
  }

  public int beside(int year) {
    if (!isYear(year)) {
      return BAD;
    }
    rehearseTwins(year, true);
    return rehearsedHarm(0, year, true);
  }

  public int stop(int place, int minute, int lasts, int weight) {
    if (!isWithin(place, 0, 99) || !isWithin(minute, 0, LAST_MINUTE)
        || !isWithin(lasts, 1, 99) || !isWithin(weight, 0, 99)) {
      return BAD;
    }
    return manned.add(place, minute, lasts, weight);
  }

  public int posts(int hands, int what) {
    if (!isWithin(what, 0, 4)) {
      return NONE;
    }
    if (!isWithin(hands, 1, 3)) {
      return BAD;
    }
    if (what - 2 >= hands) {
      return NONE;
    }
    int met = manned.metBy(hands);
    switch (what) {
      case 0: return manned.weightOf(met);
      case 1: return met;
      default: return manned.metByHand(met, hands, what - 2);
    }
  }

  // ---- things, acts, sheets

  public int thing(int kind, int size) {
    if (!isWithin(kind, 0, Things.CHIP) || !isWithin(size, 0, 99)) {
      return BAD;
    }
    return things.add(kind, size);
  }

  public int act(int thing, int act, int x) {
    return things.perform(thing, act, x);
  }

  public int trace(int i) {
    return things.bodyAt(i);
  }

  public int taken(int thing, int k) {
    if (!isWithin(k, 0, Things.CHIP)) {
      return BAD;
    }
    if (!things.has(thing)) {
      return MISSING;
    }
    int kind = things.kinds[thing];
    return Things.isUnder(kind, k) ? kind : OTHER_SORT;
  }

  public int count(int what) {
    switch (what) {
      case 0: return programCount;
      case 1: return chipCount;
      case 2: return things.size;
      case 3: return howManyIn(IN_USE);
      case 4: return howManyIn(OFF);
      case 5: return howManyWrong();
      case 6: return theBook.came;
      case 7: return papers.size;
      case 8: return tests.size;
      case 9: return faults.size;
      case 10: return tape.size;
      case 11: return runsMade;
      case 12: return things.ran;
      case 13: return manned.size;
      default: return BAD;
    }
  }

  private int howManyIn(int state) {
    int many = 0;
    for (int i = 0; i < programCount; i++) {
      if (programs[i].state == state) {
        many++;
      }
    }
    return many;
  }

  private int howManyWrong() {
    int many = 0;
    for (int i = 0; i < programCount; i++) {
      if (programs[i].wrong) {
        many++;
      }
    }
    return many;
  }

  public int sheet(int sheet, int sort, int n) {
    Sheet s = sheetAt(sheet);
    if (s == null || !isWithin(sort, NONE, 2)) {
      return BAD;
    }
    if (sort == NONE) {
      s.sort = NONE;
      return 1;
    }
    if (n > Sheet.MOST) {
      return BAD;
    }
    if (n < 0) {
      return BELOW_ZERO;
    }
    s.become(sort, n);
    return 1;
  }

  public int cell(int sheet, int i, int v) {
    Sheet s = sheetAt(sheet);
    if (s == null) {
      return BAD;
    }
    if (s.sort == NONE) {
      return MISSING;
    }
    if (!s.hasItems(i, 1)) {
      return NO_ITEM;
    }
    s.put(i, v);
    return 1;
  }

  public int copy(int sheet, int i, int other, int j, int n) {
    Sheet from = sheetAt(sheet);
    Sheet to = sheetAt(other);
    if (from == null || to == null) {
      return BAD;
    }
    if (from.sort == NONE || to.sort == NONE) {
      return MISSING;
    }
    if (from.sort != to.sort) {
      return OTHER_SORT;
    }
    if (!from.hasItems(i, n) || !to.hasItems(j, n)) {
      return NO_ITEM;
    }
    System.arraycopy(from.items, i, to.items, j, n);
    return n;
  }

  // ---- what several calls ask

  private Program programAt(int i) {
    return i >= 0 && i < programCount ? programs[i] : null;
  }

  private Chip chipAt(int i) {
    return i >= 0 && i < chipCount ? chips[i] : null;
  }

  private Sheet sheetAt(int i) {
    return i >= 0 && i < MOST_SHEETS ? sheets[i] : null;
  }

  private static boolean isWithin(int v, int least, int most) {
    return v >= least && v <= most;
  }

  private static boolean isYear(int year) {
    return isWithin(year, FIRST_YEAR, LAST_YEAR);
  }

  private static boolean isDay(int day) {
    return isWithin(day, 0, LAST_DAY);
  }

  private static boolean isHand(int hand) {
    return isWithin(hand, 0, HANDS - 1);
  }

  private static boolean isField(int field) {
    return isWithin(field, 0, FIELDS - 1);
  }

  private static boolean isRule(int rule) {
    return isWithin(rule, 0, RULES - 1);
  }

  private static boolean isKept(int digits, int pivot) {
    return (digits == 2 || digits == 4) && isWithin(pivot, NONE, MOST_PIVOT);
  }

  private static boolean hasBit(int bits, int i) {
    return i >= 0 && i < 32 && (bits >> i & 1) == 1;
  }

  private static boolean isLeap(int year, int rule) {
    boolean isFourth = year % 4 == 0;
    switch (rule) {
      case 0: return isFourth;
      case 1: return isFourth && year % 100 != 0;
      default: return isFourth && (year % 100 != 0 || year % 400 == 0);
    }
  }

  private static int inWindow(int number, int pivot) {
    return number >= pivot ? 1900 + number : 2000 + number;
  }

  // ---- runs beside their twins

  private Row inputOf(Program p) {
    Program from = programAt(p.source);
    return from == null ? p.shelved : from.written;
  }

  private Row twinInputOf(Program p) {
    Program from = programAt(p.source);
    return from == null ? p.shelved : from.twin;
  }

  /** Both go line by line beside each other, so that the first LINE at which they PART is seen. */
  private void makeRun(Program p, int year) {
    runsMade++;
    ours.begin(p.code, p.setting, inputOf(p), p.written, year);
    others.begin(p.code, asTwins, twinInputOf(p), p.twin, year);
    int parts = NONE;
    for (int n = 0; n < MOST_LINES_DONE && !(ours.isOver() && others.isOver()); n++) {
      int line = ours.line;
      ours.step();
      others.step();
      if (parts == NONE && haveParted()) {
        parts = line;
      }
    }
    p.end = ours.end;
    p.twinEnd = others.end;
    p.linesDone = ours.linesDone;
    p.twinLinesDone = others.linesDone;
    p.parts = parts;
    p.wrong = ours.end != others.end || !p.written.isLike(p.twin);
  }

  private boolean haveParted() {
    if (ours.end != others.end) {
      return true;
    }
    if (!ours.isOver() && ours.line != others.line) {
      return true;
    }
    return ours.hasWritten && others.hasWritten && ours.lastWritten != others.lastWritten;
  }

  // ---- years in fields

  /** 1 if a FIELD is SURE to hold a year, 2 if it MAY, 0 if neither. */
  private int yearIn(Program p, int field) {
    findSure();
    if (hasBit(p.sure, field)) {
      return 1;
    }
    return hasBit(p.code.askedBeside(p.sure), field) ? 2 : 0;
  }

  /** A round in which no FIELD more is SURE is the last; each round before it finds one of all. */
  private void findSure() {
    for (int i = 0; i < programCount; i++) {
      programs[i].sure = 0;
    }
    boolean grows = true;
    for (int round = 0; grows && round <= MOST_PROGRAMS * FIELDS; round++) {
      grows = false;
      for (int i = 0; i < programCount; i++) {
        Program p = programs[i];
        Program from = programAt(p.source);
        boolean readsYears = from != null && from.code.writesAny(from.sure);
        int sure = p.code.sureAfter(p.sure, readsYears);
        grows = grows || sure != p.sure;
        p.sure = sure;
      }
    }
  }

  // ---- nights that are only thought of

  /** TWINS read TWIN FILES alone: what they do in a NIGHT is the same whoever is mended. */
  private void rehearseTwins(int year, boolean untouched) {
    for (int i = 0; i < programCount; i++) {
      Program p = programs[i];
      if (p.state == OFF && !untouched) {
        p.twinThen.clear();
      } else {
        others.begin(p.code, asTwins, inputThen(i, ALL), p.twinThen, year);
        p.twinEndThen = others.finish();
      }
    }
  }

  /** HARM of a NIGHT, its TWINS rehearsed before, if the mended PROGRAMS did as their TWINS do. */
  private int rehearsedHarm(int mended, int year, boolean untouched) {
    int harm = 0;
    for (int i = 0; i < programCount; i++) {
      Program p = programs[i];
      if (p.state == OFF && !untouched) {
        p.writtenThen.clear();
        harm += p.weight;
      } else if (!hasBit(mended, i)) {
        ours.begin(p.code, untouched ? asAtFirst : p.setting, inputThen(i, mended), p.writtenThen, year);
        int end = ours.finish();
        if (end != p.twinEndThen || !p.writtenThen.isLike(p.twinThen)) {
          harm += p.weight;
        }
      }
    }
    return harm;
  }

  /** A FILE of a later PROGRAM is still as it is now; that of a mended one is that of its TWIN. */
  private Row inputThen(int reader, int mended) {
    int source = programs[reader].source;
    Program from = programAt(source);
    if (from == null) {
      return programs[reader].shelved;
    }
    if (hasBit(mended, source)) {
      return source < reader ? from.twinThen : from.twin;
    }
    return source < reader ? from.writtenThen : from.written;
  }

  /** Up to so many entries of up to five numbers each; those that come later are only counted. */
  private static final class Table {
    final int most;
    final int width;
    final int[] cells;
    int size;
    int came;

    Table(int most, int width) {
      this.most = most;
      this.width = width;
      this.cells = new int[most * width];
    }

    int add(int a, int b, int c, int d, int e) {
      came++;
      if (size >= most) {
        return FULL;
      }
      put(size, 0, a);
      put(size, 1, b);
      put(size, 2, c);
      put(size, 3, d);
      put(size, 4, e);
      size++;
      return size - 1;
    }

    void put(int i, int what, int v) {
      if (what < width) {
        cells[i * width + what] = v;
      }
    }

    boolean has(int i, int what) {
      return i >= 0 && i < size && what >= 0 && what < width;
    }

    int get(int i, int what) {
      return has(i, what) ? cells[i * width + what] : 0;
    }
  }

  /** A row of up to 12 numbers: a SHELF, a FILE. */
  private static final class Row {
    static final int MOST = 12;
    final int[] items = new int[MOST];
    int size;

    Row() {
    }

    void clear() {
      size = 0;
    }

    boolean add(int v) {
      if (size >= MOST) {
        return false;
      }
      items[size] = v;
      size++;
      return true;
    }

    boolean has(int i) {
      return i >= 0 && i < size;
    }

    int get(int i) {
      return has(i) ? items[i] : 0;
    }

    boolean isLike(Row other) {
      if (size != other.size) {
        return false;
      }
      for (int i = 0; i < size; i++) {
        if (items[i] != other.items[i]) {
          return false;
        }
      }
      return true;
    }
  }

  /** THE TAPE, and how it is read as a PROGRAM: where reading fails it stays, and that is the FAULT. */
  private static final class Tape {
    static final int MOST = 160;
    final int[] bytes = new int[MOST];
    int size;
    int at;
    int left;
    int right;
    int number;

    Tape() {
    }

    boolean take(int word, int n) {
      if (n > MOST - size) {
        return false;
      }
      for (int k = n - 1; k >= 0; k--) {
        bytes[size] = word >> 8 * k & 255;
        size++;
      }
      return true;
    }

    int readAll(Code code) {
      at = 0;
      code.size = 0;
      for (int n = 1; n <= Code.MOST; n++) {
        if (!readLine(code)) {
          return at;
        }
        if (n == Code.MOST || !skip(';')) {
          break;
        }
      }
      return at == size ? NONE : at;
    }

    boolean readLine(Code code) {
      left = 0;
      right = 0;
      number = 0;
      int op = readWord();
      if (op == Code.IF_BELOW) {
        op = readCondition();
      } else if (op != NONE && !readParts(op)) {
        op = NONE;
      }
      return op != NONE && code.add(op, left, right, number);
    }

    /** Of all words the one that stands here; if none does, on to where the last of them fails. */
    int readWord() {
      int longest = 0;
      for (int op = 0; op < Code.WORDS; op++) {
        String word = Code.wordOf(op);
        int alike = alikeWith(word);
        if (alike == word.length()) {
          at += alike;
          return op;
        }
        longest = Math.max(longest, alike);
      }
      at += longest;
      return NONE;
    }

    int alikeWith(String word) {
      int alike = 0;
      while (alike < word.length() && at + alike < size && bytes[at + alike] == word.charAt(alike)) {
        alike++;
      }
      return alike;
    }

    boolean readParts(int op) {
      switch (op) {
        case Code.NOW: case Code.IN: case Code.OUT:
          return skip(' ') && readLeft();
        case Code.SET:
          return skip(' ') && readLeft() && skip(' ') && readNumber(4);
        case Code.MOV: case Code.ADD: case Code.SUB:
          return skip(' ') && readLeft() && skip(' ') && readRight();
        case Code.LEAP:
          return skip(' ') && readLeft() && skip(' ') && readNumber(2);
        case Code.GO:
          return skip(' ') && readNumber(2);
        default:
          return true;
      }
    }

    int readCondition() {
      if (!skip(' ') || !readLeft()) {
        return NONE;
      }
      int op = NONE;
      if (skip('<')) {
        op = Code.IF_BELOW;
      } else if (skip('=')) {
        op = Code.IF_ALIKE;
      }
      return op != NONE && readRight() && skip(' ') && readNumber(2) ? op : NONE;
    }

    boolean skip(int sign) {
      if (at >= size || bytes[at] != sign) {
        return false;
      }
      at++;
      return true;
    }

    boolean readLeft() {
      left = readLetter();
      return left != NONE;
    }

    boolean readRight() {
      right = readLetter();
      return right != NONE;
    }

    int readLetter() {
      if (at >= size || !isWithin(bytes[at], 'a', 'f')) {
        return NONE;
      }
      at++;
      return bytes[at - 1] - 'a';
    }

    boolean readNumber(int most) {
      number = 0;
      int figures = 0;
      while (figures < most && at < size && isWithin(bytes[at], '0', '9')) {
        number = number * 10 + bytes[at] - '0';
        figures++;
        at++;
      }
      return figures > 0;
    }
  }

  /** The LINES of a PROGRAM: 'left' is F, 'right' is G, 'number' is N or L. */
  private static final class Code {
    static final int NOW = 0, IN = 1, OUT = 2, SET = 3, MOV = 4, ADD = 5, SUB = 6;
    static final int IF_BELOW = 7, LEAP = 8, GO = 9, END = 10, IF_ALIKE = 11;
    static final int WORDS = 11;
    static final int MOST = 12;
    final int[] ops = new int[MOST];
    final int[] lefts = new int[MOST];
    final int[] rights = new int[MOST];
    final int[] numbers = new int[MOST];
    int size;

    Code() {
    }

    static String wordOf(int op) {
      switch (op) {
        case NOW: return "now";
        case IN: return "in";
        case OUT: return "out";
        case SET: return "set";
        case MOV: return "mov";
        case ADD: return "add";
        case SUB: return "sub";
        case IF_BELOW: return "if";
        case LEAP: return "leap";
        case GO: return "go";
        default: return "end";
      }
    }

    boolean add(int op, int left, int right, int number) {
      if (size >= MOST) {
        return false;
      }
      ops[size] = op;
      lefts[size] = left;
      rights[size] = right;
      numbers[size] = number;
      size++;
      return true;
    }

    boolean uses(int op, int left) {
      for (int line = 0; line < size; line++) {
        if (ops[line] == op && lefts[line] == left) {
          return true;
        }
      }
      return false;
    }

    boolean writesAny(int fields) {
      for (int line = 0; line < size; line++) {
        if (ops[line] == OUT && hasBit(fields, lefts[line])) {
          return true;
        }
      }
      return false;
    }

    int sureAfter(int sure, boolean readsYears) {
      int all = sure;
      for (int line = 0; line < size; line++) {
        if (givesYear(line, all, readsYears)) {
          all |= 1 << lefts[line];
        }
      }
      return all;
    }

    boolean givesYear(int line, int sure, boolean readsYears) {
      switch (ops[line]) {
        case NOW: return true;
        case IN: return readsYears;
        case MOV: case ADD: case SUB: return hasBit(sure, rights[line]);
        default: return false;
      }
    }

    int askedBeside(int sure) {
      int asked = 0;
      for (int line = 0; line < size; line++) {
        if (ops[line] == IF_BELOW || ops[line] == IF_ALIKE) {
          asked |= hasBit(sure, lefts[line]) ? 1 << rights[line] : 0;
          asked |= hasBit(sure, rights[line]) ? 1 << lefts[line] : 0;
        }
      }
      return asked;
    }
  }

  /**
   * How a RUN keeps its numbers: DIGITS and PIVOT of each FIELD, and the LEAP RULE. As TWINS do it,
   * whole, nothing is cut, each number means itself, and RULE 2 is asked.
   */
  private static final class Setting {
    final boolean whole;
    final int[] digits = {2, 2, 2, 2, 2, 2};
    final int[] pivots = {NONE, NONE, NONE, NONE, NONE, NONE};
    int rule;

    Setting(boolean whole) {
      this.whole = whole;
      this.rule = whole ? 2 : 0;
    }

    void takeOver(Setting other) {
      System.arraycopy(other.digits, 0, digits, 0, FIELDS);
      System.arraycopy(other.pivots, 0, pivots, 0, FIELDS);
      rule = other.rule;
    }

    void change(int field, int digitsThen, int pivotThen) {
      digits[field] = digitsThen;
      pivots[field] = pivotThen;
    }

    int cut(int field, int number) {
      return whole ? number : Math.floorMod(number, digits[field] == 2 ? 100 : 10000);
    }

    int meaning(int field, int number) {
      boolean hasWindow = !whole && digits[field] == 2 && pivots[field] != NONE;
      return hasWindow ? inWindow(number, pivots[field]) : number;
    }

    boolean leapsIn(int meant) {
      return isLeap(!whole && meant < 100 ? 1900 + meant : meant, rule);
    }
  }

  /** A PROGRAM, its RUN last made (end NONE: none), and what it wrote in a rehearsed NIGHT. */
  private static final class Program {
    final Code code;
    final Setting setting = new Setting(false);
    final Row shelved = new Row();
    final Row written = new Row();
    final Row twin = new Row();
    final Row writtenThen = new Row();
    final Row twinThen = new Row();
    int twinEndThen;
    int source = NONE;
    int state = UNREAD;
    int stateBeforeOff = UNREAD;
    int weight = 1;
    int days = 1;
    int end = NONE;
    int twinEnd = NONE;
    int linesDone = NONE;
    int twinLinesDone = NONE;
    int parts = NONE;
    boolean wrong;
    int sure;

    Program(Code code) {
      this.code = code;
    }

    void forgetRun() {
      end = NONE;
      twinEnd = NONE;
      linesDone = NONE;
      twinLinesDone = NONE;
      parts = NONE;
      wrong = false;
    }
  }

  /** Does a RUN line by line. */
  private static final class Runner {
    static final int RUNNING = -1;
    final int[] numbers = new int[FIELDS];
    final Row spare = new Row();
    Code code = new Code();
    Setting setting = new Setting(false);
    Row in = spare;
    Row out = spare;
    int year;
    int line;
    int nextIn;
    int linesDone;
    int end = ENDED;
    boolean hasWritten;
    int lastWritten;

    Runner() {
    }

    void begin(Code itsCode, Setting itsSetting, Row itsIn, Row itsOut, int itsYear) {
      code = itsCode;
      setting = itsSetting;
      in = itsIn;
      out = itsOut;
      year = itsYear;
      line = 0;
      nextIn = 0;
      linesDone = 0;
      end = code.size > 0 ? RUNNING : ENDED;
      out.clear();
      for (int f = 0; f < FIELDS; f++) {
        numbers[f] = 0;
      }
    }

    boolean isOver() {
      return end != RUNNING;
    }

    int finish() {
      for (int n = 0; n < MOST_LINES_DONE && !isOver(); n++) {
        step();
      }
      return end;
    }

    void step() {
      hasWritten = false;
      if (isOver()) {
        return;
      }
      linesDone++;
      int f = code.lefts[line];
      int g = code.rights[line];
      int n = code.numbers[line];
      int next = line + 1;
      switch (code.ops[line]) {
        case Code.NOW: numbers[f] = setting.cut(f, year); break;
        case Code.IN: readInto(f); break;
        case Code.OUT: writeFrom(f); break;
        case Code.SET: numbers[f] = setting.cut(f, n); break;
        case Code.MOV: numbers[f] = setting.cut(f, numbers[g]); break;
        case Code.ADD: numbers[f] = setting.cut(f, numbers[f] + numbers[g]); break;
        case Code.SUB: numbers[f] = setting.cut(f, numbers[f] - numbers[g]); break;
        case Code.IF_BELOW: next = meaningOf(f) < meaningOf(g) ? n : next; break;
        case Code.IF_ALIKE: next = meaningOf(f) == meaningOf(g) ? n : next; break;
        case Code.LEAP: next = setting.leapsIn(meaningOf(f)) ? n : next; break;
        case Code.GO: next = n; break;
        default: end = ENDED; break;
      }
      if (!isOver()) {
        goOnTo(next);
      }
    }

    /** A RUN that is over with its 150th LINE has ended; only one that would go on LOOPS. */
    void goOnTo(int next) {
      line = next;
      if (line >= code.size) {
        end = ENDED;
      } else if (linesDone >= MOST_LINES_DONE) {
        end = LOOPS;
      }
    }

    void readInto(int field) {
      if (!in.has(nextIn)) {
        end = STOPPED;
        return;
      }
      numbers[field] = setting.cut(field, in.get(nextIn));
      nextIn++;
    }

    void writeFrom(int field) {
      hasWritten = out.add(numbers[field]);
      lastWritten = numbers[field];
      if (!hasWritten) {
        end = STOPPED;
      }
    }

    int meaningOf(int field) {
      return setting.meaning(field, numbers[field]);
    }
  }

  /**
   * A CHIP and what its answers leave. An answer tells which year was meant, and so bounds the PIVOT
   * from one side, and whether that year leaps, which is a matter of the RULE alone: so those that
   * FIT are always all PIVOTS from a lowest to a highest, each with all RULES of a set.
   */
  private static final class Chip {
    final int pivot;
    final int rule;
    int asked;
    int lowest = 0;
    int highest = MOST_PIVOT;
    int rules = (1 << RULES) - 1;

    Chip(int pivot, int rule) {
      this.pivot = pivot;
      this.rule = rule;
    }

    int answer(int figures) {
      asked++;
      int year = inWindow(figures, pivot);
      boolean leap = isLeap(year, rule);
      if (figures >= pivot) {
        highest = Math.min(highest, figures);
      } else {
        lowest = Math.max(lowest, figures + 1);
      }
      rules &= leap ? leapingRules(year) : ~leapingRules(year);
      return 2 * year + (leap ? 1 : 0);
    }

    static int leapingRules(int year) {
      int leaping = 0;
      for (int some = 0; some < RULES; some++) {
        leaping |= isLeap(year, some) ? 1 << some : 0;
      }
      return leaping;
    }

    int fitting() {
      return (highest - lowest + 1) * Integer.bitCount(rules);
    }

    int leastFitting() {
      for (int some = 0; some < RULES; some++) {
        if (hasBit(rules, some)) {
          return lowest * RULES + some;
        }
      }
      return NONE;
    }

    /** Years of like last figures part alike, so the first hundred tells the least YEAR. */
    int mostParting() {
      int best = 0;
      for (int figures = 1; figures < 100; figures++) {
        if (mostAlike(figures) < mostAlike(best)) {
          best = figures;
        }
      }
      return best;
    }

    int mostAlike(int figures) {
      int early = Math.max(0, Math.min(figures, highest) - lowest + 1);
      int late = highest - lowest + 1 - early;
      return Math.max(early * mostRulesAlike(1900 + figures), late * mostRulesAlike(2000 + figures));
    }

    int mostRulesAlike(int year) {
      int leaping = Integer.bitCount(rules & leapingRules(year));
      return Math.max(leaping, Integer.bitCount(rules) - leaping);
    }
  }

  /** STOPS, and for each set of them how few HANDS can meet it. */
  private static final class Posts {
    static final int NEVER = 9;
    final int[] places = new int[MOST_TOLD];
    final int[] minutes = new int[MOST_TOLD];
    final int[] lasting = new int[MOST_TOLD];
    final int[] weights = new int[MOST_TOLD];
    final int[] order = new int[MOST_TOLD];
    final int[] handsFor = new int[1 << MOST_TOLD];
    int size;

    Posts() {
    }

    int add(int place, int minute, int lasts, int weight) {
      if (size >= MOST_TOLD) {
        return FULL;
      }
      int number = size;
      places[number] = place;
      minutes[number] = minute;
      lasting[number] = lasts;
      weights[number] = weight;
      int k = number;
      while (k > 0 && minutes[order[k - 1]] > minute) {
        order[k] = order[k - 1];
        k--;
      }
      order[k] = number;
      size++;
      for (int set = 1 << number; set < 2 << number; set++) {
        handsFor[set] = fewestFor(set);
      }
      return number;
    }

    /** All sets of lesser bits are known already, and so both halves of each way to share this one. */
    int fewestFor(int set) {
      if (canOneMeet(set)) {
        return 1;
      }
      int fewest = NEVER;
      for (int part = 1; part < set; part++) {
        if ((part & ~set) == 0 && handsFor[part] == 1) {
          fewest = Math.min(fewest, 1 + handsFor[set ^ part]);
        }
      }
      return fewest;
    }

    boolean canOneMeet(int set) {
      int place = 0;
      int free = 0;
      for (int k = 0; k < size; k++) {
        int next = order[k];
        if (hasBit(set, next)) {
          if (free + Math.abs(places[next] - place) > minutes[next]) {
            return false;
          }
          place = places[next];
          free = minutes[next] + lasting[next];
        }
      }
      return true;
    }

    int metBy(int hands) {
      int best = 0;
      for (int set = 1; set < 1 << size; set++) {
        if (handsFor[set] <= hands && weightOf(set) > weightOf(best)) {
          best = set;
        }
      }
      return best;
    }

    int weightOf(int set) {
      int weight = 0;
      for (int i = 0; i < size; i++) {
        weight += hasBit(set, i) ? weights[i] : 0;
      }
      return weight;
    }

    int metByHand(int met, int hands, int hand) {
      int rest = met;
      int part = 0;
      for (int h = 0; h <= hand; h++) {
        part = greatestPart(rest, hands - 1 - h);
        rest ^= part;
      }
      return part;
    }

    int greatestPart(int rest, int others) {
      for (int part = rest; part > 0; part--) {
        if ((part & ~rest) == 0 && handsFor[part] == 1 && handsFor[rest ^ part] <= others) {
          return part;
        }
      }
      return 0;
    }
  }

  /** THINGS, each of a KIND, and THE TRACE of the bodies that ran in the latest act. */
  private static final class Things {
    static final int THING = 0, FIELD = 1, PROGRAM = 2, FILE = 3, MEND = 4, WINDOW = 5, CHIP = 6;
    static final int MOST = 40;
    static final int MOST_TRACED = 20;
    final int[] kinds = new int[MOST];
    final int[] sizes = new int[MOST];
    final int[] traced = new int[MOST_TRACED];
    int size;
    int ran;
    int kind;
    int m;
    int z;

    Things() {
    }

    int add(int itsKind, int itsSize) {
      if (size >= MOST) {
        return FULL;
      }
      kinds[size] = itsKind;
      sizes[size] = itsSize;
      size++;
      return size - 1;
    }

    boolean has(int thing) {
      return thing >= 0 && thing < size;
    }

    static int above(int kind) {
      switch (kind) {
        case THING: return NONE;
        case WINDOW: return FIELD;
        case CHIP: return PROGRAM;
        default: return THING;
      }
    }

    static boolean isUnder(int kind, int k) {
      int some = kind;
      for (int level = 0; level < 3 && some != k; level++) {
        some = above(some);
      }
      return some == k;
    }

    int bodyAt(int i) {
      return i >= 0 && i < Math.min(ran, MOST_TRACED) ? traced[i] : NONE;
    }

    int perform(int thing, int act, int x) {
      ran = 0;
      if (!has(thing)) {
        return 0;
      }
      kind = kinds[thing];
      m = thing;
      z = sizes[thing];
      switch (act) {
        case 0: return reading(kind, x);
        case 1: return feeding(kind, x);
        case 2: return failing(kind, x);
        default: return 0;
      }
    }

    void starts(int body) {
      if (ran < MOST_TRACED) {
        traced[ran] = body;
      }
      ran++;
    }

    // The calls on a KIND above end at THING: at most three levels, as the KINDS are told.

    private int reading(int from, int x) {
      switch (from) {
        case WINDOW: starts(60); return reading(FIELD, x) - 19;
        case FIELD: starts(20); return reading(THING, x) * 10;
        default: starts(10); return x + z;
      }
    }

    private int feeding(int from, int x) {
      switch (from) {
        case CHIP: starts(70); return feeding(PROGRAM, x) ^ 3;
        case PROGRAM: starts(30); return feeding(THING, x) + m;
        case MEND: starts(50); return feeding(THING, x) - z;
        default: starts(11); return reading(kind, x) * 2;
      }
    }

    private int failing(int from, int x) {
      switch (from) {
        case WINDOW: starts(61); return failing(FIELD, x) + 2;
        case FILE: starts(40); return failing(THING, x - 1);
        default: starts(12); return feeding(kind, x) ^ reading(kind, x + m);
      }
    }
  }

  /** A row of bytes, shorts or ints (sort 0, 1, 2), or missing (sort NONE). */
  private static final class Sheet {
    static final int MOST = 40;
    final int[] items = new int[MOST];
    int sort = NONE;
    int size;

    Sheet() {
    }

    void become(int itsSort, int n) {
      sort = itsSort;
      size = n;
      for (int i = 0; i < MOST; i++) {
        items[i] = 0;
      }
    }

    boolean hasItems(int i, int n) {
      return i >= 0 && n >= 0 && i <= size && n <= size - i;
    }

    int item(int i) {
      return hasItems(i, 1) ? items[i] : 0;
    }

    void put(int i, int v) {
      switch (sort) {
        case 0: items[i] = (byte) v; break;
        case 1: items[i] = (short) v; break;
        default: items[i] = v; break;
      }
    }
  }
}
