import java.util.ArrayList;
import java.util.Arrays;
import java.util.HashMap;
import java.util.List;
import java.util.Map;
import java.util.TreeSet;
import java.util.regex.Matcher;
import java.util.regex.Pattern;

/**
 * The document once more, told as plainly as can be and by other means than TwoDigits: by regular
 * expressions, lists, copies of the whole land, and by trying all there is. For tests alone.
 */
final class Model {
  static final int NONE = -1, BAD = -2, STATE = -3, FULL = -4;

  private static final String LINE = "(?:now [a-f]|in [a-f]|out [a-f]|set [a-f] [0-9]{1,4}|mov [a-f] [a-f]"
      + "|add [a-f] [a-f]|sub [a-f] [a-f]|if [a-f]<[a-f] [0-9]{1,2}|if [a-f]=[a-f] [0-9]{1,2}"
      + "|leap [a-f] [0-9]{1,2}|go [0-9]{1,2}|end)";
  private static final Pattern PROGRAM = Pattern.compile(LINE + "(?:;" + LINE + "){0,11}");

  /** One LINE that was done: which, where it went on (NONE: nowhere), what it wrote, how it ended. */
  private record Did(int line, int next, Integer wrote, int end) {
  }

  private static final class Run {
    final List<Did> dids = new ArrayList<>();
    final List<Integer> file = new ArrayList<>();
    int end;
  }

  private static final class Prog {
    String[] lines;
    int[] digits = {2, 2, 2, 2, 2, 2};
    int[] pivots = {-1, -1, -1, -1, -1, -1};
    int rule, input = NONE, state, was, weight = 1, days = 1;
    List<Integer> shelf = new ArrayList<>();
    List<Integer> file = new ArrayList<>();
    List<Integer> twinFile = new ArrayList<>();
    Run last, lastTwin;

    Prog copy() {
      Prog c = new Prog();
      c.lines = lines;
      c.digits = digits.clone();
      c.pivots = pivots.clone();
      c.rule = rule;
      c.input = input;
      c.state = state;
      c.was = was;
      c.weight = weight;
      c.days = days;
      c.shelf = shelf;
      c.file = file;
      c.twinFile = twinFile;
      return c;
    }

    boolean wrong() {
      return last != null && (last.end != lastTwin.end || !last.file.equals(lastTwin.file));
    }
  }

  private final StringBuilder tape = new StringBuilder();
  private List<Prog> progs = new ArrayList<>();
  private final List<int[]> book = new ArrayList<>();
  private final List<int[]> chips = new ArrayList<>();
  private final List<List<Integer>> asked = new ArrayList<>();
  private final List<int[]> papers = new ArrayList<>();
  private final List<Integer> tests = new ArrayList<>();
  private final List<int[]> faults = new ArrayList<>();
  private final List<int[]> stops = new ArrayList<>();
  private final List<int[]> things = new ArrayList<>();
  private List<Integer> trace = new ArrayList<>();
  private final int[] sorts = {-1, -1, -1};
  private final int[][] sheets = new int[3][];
  private int runs;

  // ---- programs

  int feed(int bytes, int n) {
    if (n < 0 || n > 4) return BAD;
    if (tape.length() + n > 160) return FULL;
    String all = "" + (char) (bytes >>> 24) + (char) (bytes >>> 16 & 255) + (char) (bytes >>> 8 & 255)
        + (char) (bytes & 255);
    tape.append(all.substring(4 - n));
    return tape.length();
  }

  int program() {
    if (progs.size() == 12) return FULL;
    String text = tape.toString();
    tape.setLength(0);
    for (int n = 1; n <= text.length(); n++) {
      Matcher m = PROGRAM.matcher(text.substring(0, n));
      if (!m.matches() && !m.hitEnd()) return -10 - (n - 1);
    }
    if (!PROGRAM.matcher(text).matches()) return -10 - text.length();
    Prog p = new Prog();
    p.lines = text.split(";");
    progs.add(p);
    return progs.size() - 1;
  }

  int programOf(int program, int what) {
    if (!is(program)) return -5;
    Prog p = progs.get(program);
    return switch (what) {
      case 0 -> p.state;
      case 1 -> p.input;
      case 2 -> p.rule;
      case 3 -> p.lines.length;
      case 4 -> p.file.size();
      case 5 -> p.twinFile.size();
      case 6 -> p.last == null ? -1 : p.last.end;
      case 7 -> p.last == null ? -1 : p.lastTwin.end;
      case 8 -> p.weight;
      case 9 -> p.days;
      case 10 -> p.wrong() ? 1 : 0;
      default -> -5;
    };
  }

  int field(int program, int field, int what) {
    if (!is(program) || field < 0 || field > 5 || what < 0 || what > 2) return -5;
    Prog p = progs.get(program);
    if (what < 2) return what == 0 ? p.digits[field] : p.pivots[field];
    TreeSet<Integer> sure = sure();
    if (sure.contains(program * 6 + field)) return 1;
    for (String line : p.lines) {
      if (line.startsWith("if ")) {
        int f = line.charAt(3) - 'a';
        int g = line.charAt(5) - 'a';
        if (f == field && sure.contains(program * 6 + g) || g == field && sure.contains(program * 6 + f)) return 2;
      }
    }
    return 0;
  }

  /** All FIELDS, as PROGRAM times 6 and FIELD, that years flow to from some now. */
  private TreeSet<Integer> sure() {
    TreeSet<Integer> sure = new TreeSet<>();
    for (int p = 0; p < progs.size(); p++) {
      for (String line : progs.get(p).lines) {
        if (line.startsWith("now")) flow(p, line.charAt(4) - 'a', sure);
      }
    }
    return sure;
  }

  private void flow(int p, int field, TreeSet<Integer> sure) {
    if (!sure.add(p * 6 + field)) return;
    char name = (char) ('a' + field);
    for (String line : progs.get(p).lines) {
      if (line.matches("(mov|add|sub) . " + name)) flow(p, line.charAt(4) - 'a', sure);
      if (line.equals("out " + name)) {
        for (int q = 0; q < progs.size(); q++) {
          if (progs.get(q).input != p) continue;
          for (String other : progs.get(q).lines) {
            if (other.startsWith("in ")) flow(q, other.charAt(3) - 'a', sure);
          }
        }
      }
    }
  }

  int set(int program, int what, int v) {
    if (!is(program) || what < 0 || what > 1) return NONE;
    if (v < 0 || v > 99) return BAD;
    Prog p = progs.get(program);
    int was = what == 0 ? p.weight : p.days;
    if (what == 0) p.weight = v; else p.days = v;
    return was;
  }

  int input(int program, int from) {
    if (!is(program) || from != NONE && !is(from)) return NONE;
    if (program == from) return BAD;
    int was = progs.get(program).input;
    progs.get(program).input = from;
    return was;
  }

  int shelf(int program, int sheet, int sort, int i, int n) {
    if (!is(program) || sheet < 0 || sheet > 2 || sort < 0 || sort > 2) return NONE;
    if (n < 0 || n > 12) return BAD;
    List<Integer> row = new ArrayList<>();
    if (n > 0) {
      if (sorts[sheet] >= 0 && sorts[sheet] != sort) return -13;
      if (sorts[sheet] < 0) return -11;
      if (i < 0 || (long) i + n > sheets[sheet].length) return -12;
      for (int k = 0; k < n; k++) {
        int v = sheets[sheet][i + k];
        row.add(v < 0 ? -1 : v % 10000);
      }
    }
    progs.get(program).shelf = row;
    return n;
  }

  // ---- runs

  private static int meant(Prog p, int f, int number) {
    if (p.digits[f] == 4 || p.pivots[f] < 0) return number;
    return number < p.pivots[f] ? number + 2000 : number + 1900;
  }

  private static boolean leapYear(long y, int rule) {
    boolean fourth = y % 4 == 0, hundredth = y % 100 == 0, fourHundredth = y % 400 == 0;
    return rule == 0 ? fourth : rule == 1 ? fourth && !hundredth : fourth && !hundredth || fourHundredth;
  }

  private static Run go(Prog p, boolean twin, List<Integer> input, int year) {
    Run run = new Run();
    int[] fields = new int[6];
    int read = 0;
    int at = 0;
    while (true) {
      if (at >= p.lines.length) {
        run.end = 0;
        return run;
      }
      if (run.dids.size() == 150) {
        run.end = 2;
        return run;
      }
      String[] w = p.lines[at].split(" ");
      int next = at + 1;
      Integer wrote = null;
      Integer come = null;
      int end = -1;
      int f = w.length > 1 ? w[1].charAt(0) - 'a' : 0;
      int g = w.length > 2 ? w[2].charAt(0) - 'a' : 0;
      switch (w[0]) {
        case "now" -> come = year;
        case "in" -> {
          if (read == input.size()) end = 1; else come = input.get(read++);
        }
        case "out" -> {
          if (run.file.size() == 12) end = 1;
          else {
            wrote = fields[f];
            run.file.add(wrote);
          }
        }
        case "set" -> come = Integer.parseInt(w[2]);
        case "mov" -> come = fields[g];
        case "add" -> come = fields[f] + fields[g];
        case "sub" -> come = fields[f] - fields[g];
        case "if" -> {
          int h = w[1].charAt(2) - 'a';
          long a = twin ? fields[f] : meant(p, f, fields[f]);
          long b = twin ? fields[h] : meant(p, h, fields[h]);
          if (w[1].charAt(1) == '<' ? a < b : a == b) next = Integer.parseInt(w[2]);
        }
        case "leap" -> {
          int y = twin ? fields[f] : meant(p, f, fields[f]);
          if (!twin && y < 100) y += 1900;
          if (leapYear(y, twin ? 2 : p.rule)) next = Integer.parseInt(w[2]);
        }
        case "go" -> next = Integer.parseInt(w[1]);
        default -> end = 0;
      }
      if (come != null) {
        int size = p.digits[f] == 2 ? 100 : 10000;
        fields[f] = twin ? come : (come % size + size) % size;
      }
      boolean there = end < 0 && next < p.lines.length;
      run.dids.add(new Did(at, there && run.dids.size() < 149 ? next : NONE, wrote, end));
      if (end >= 0) {
        run.end = end;
        return run;
      }
      at = next;
    }
  }

  /** Up to where the LINES done are the same, the first that went on, wrote or ended otherwise. */
  private static int parts(Run a, Run b) {
    for (int i = 0; i < a.dids.size() && i < b.dids.size(); i++) {
      Did x = a.dids.get(i);
      Did y = b.dids.get(i);
      if (x.line != y.line) throw new IllegalStateException("parted unseen");
      boolean lastOne = i == a.dids.size() - 1 || i == b.dids.size() - 1;
      if (x.next != y.next || x.end != y.end || x.wrote != null && !x.wrote.equals(y.wrote)) return x.line;
      if (lastOne && a.end != b.end) return x.line;
    }
    return NONE;
  }

  private List<Integer> inputOf(Prog p, boolean twin) {
    if (p.input == NONE) return p.shelf.stream().map(v -> Math.max(v, 0)).toList();
    return twin ? progs.get(p.input).twinFile : progs.get(p.input).file;
  }

  private void both(Prog p, int year) {
    runs++;
    p.last = go(p, false, inputOf(p, false), year);
    p.lastTwin = go(p, true, inputOf(p, true), year);
    p.file = p.last.file;
    p.twinFile = p.lastTwin.file;
  }

  int run(int program, int year) {
    if (!is(program)) return NONE;
    if (badYear(year)) return BAD;
    both(progs.get(program), year);
    return progs.get(program).last.end;
  }

  int file(int program, int i, boolean twin) {
    if (!is(program)) return -5;
    List<Integer> file = twin ? progs.get(program).twinFile : progs.get(program).file;
    return i < 0 || i >= file.size() ? -5 : file.get(i);
  }

  int done(int program, int what) {
    if (!is(program) || what < 0 || what > 2) return -5;
    Prog p = progs.get(program);
    if (p.last == null) return -1;
    return what == 0 ? p.last.dids.size() : what == 1 ? p.lastTwin.dids.size() : parts(p.last, p.lastTwin);
  }

  int leaps(int year, int rule) {
    if (badYear(year) || rule < 0 || rule > 2) return NONE;
    return leapYear(year, rule) ? 1 : 0;
  }

  int meant(int number, int pivot) {
    if (number < 0 || number > 99 || pivot < 0 || pivot > 100) return NONE;
    return number >= pivot ? 1900 + number : 2000 + number;
  }

  int night(int year) {
    if (badYear(year)) return BAD;
    return nightOf(year, 0);
  }

  /** A NIGHT in which some, as bits, do as their TWINS do. */
  private int nightOf(int year, int asTwins) {
    int harm = 0;
    for (int i = 0; i < progs.size(); i++) {
      Prog p = progs.get(i);
      if (p.state == 5) {
        p.file = new ArrayList<>();
        p.twinFile = new ArrayList<>();
        p.last = null;
        harm += p.weight;
        continue;
      }
      both(p, year);
      if ((asTwins >> i & 1) == 1) {
        p.last = p.lastTwin;
        p.file = p.twinFile;
      }
      if (p.wrong()) harm += p.weight;
    }
    return harm;
  }

  int reach(int program) {
    if (!is(program)) return NONE;
    int bits = 0;
    List<Integer> todo = new ArrayList<>(List.of(program));
    while (!todo.isEmpty()) {
      int from = todo.remove(0);
      for (int q = 0; q < progs.size(); q++) {
        if (progs.get(q).input == from && (bits >> q & 1) == 0) {
          bits |= 1 << q;
          todo.add(q);
        }
      }
    }
    return bits;
  }

  int cross(int first, int second, int what) {
    if (what < 0 || what > 1 || !is(first) || !is(second) || progs.get(second).input != first) return NONE;
    TreeSet<Integer> crossed = new TreeSet<>();
    for (String out : progs.get(first).lines) {
      for (String in : progs.get(second).lines) {
        if (!out.startsWith("out") || !in.startsWith("in")) continue;
        int f = out.charAt(4) - 'a';
        int g = in.charAt(3) - 'a';
        if (progs.get(first).digits[f] != 2 || progs.get(second).digits[g] != 2) continue;
        for (int v = 0; v < 100; v++) {
          if (meant(progs.get(first), f, v) != meant(progs.get(second), g, v)) crossed.add(v);
        }
      }
    }
    return what == 0 ? crossed.size() : crossed.isEmpty() ? -1 : crossed.first();
  }

  // ---- states

  private int tell(int program, int hand, int day) {
    int state = progs.get(program).state;
    book.add(new int[] {program, hand, day, state});
    return state;
  }

  int does(int program, int hand, int day, int what) {
    if (!is(program) || hand < 0 || hand > 7 || what < 0 || what > 3) return NONE;
    if (badDay(day)) return BAD;
    Prog p = progs.get(program);
    if (what == 0 && p.state != 0 || what == 1 && p.state != 3) return STATE;
    if (what == 2 && p.state == 5 || what == 3 && p.state != 5) return STATE;
    if (what == 2) {
      p.was = p.state;
      p.last = null;
      p.lastTwin = null;
    }
    p.state = what == 0 ? 1 : what == 1 ? 4 : what == 2 ? 5 : p.was;
    return tell(program, hand, day);
  }

  int mend(int program, int hand, int day, int field, int digits, int pivot) {
    if (!is(program) || field < 0 || field > 5 || hand < 0 || hand > 7) return NONE;
    if (badDay(day) || badKeeping(digits, pivot)) return BAD;
    Prog p = progs.get(program);
    if (p.state < 1 || p.state > 3) return STATE;
    p.digits[field] = digits;
    p.pivots[field] = pivot;
    p.state = 2;
    return tell(program, hand, day);
  }

  int mendRule(int program, int hand, int day, int rule) {
    if (!is(program) || hand < 0 || hand > 7) return NONE;
    if (badDay(day) || rule < 0 || rule > 2) return BAD;
    Prog p = progs.get(program);
    if (p.state < 1 || p.state > 3) return STATE;
    p.rule = rule;
    p.state = 2;
    return tell(program, hand, day);
  }

  int test(int program, int hand, int day, int year) {
    if (!is(program) || hand < 0 || hand > 7) return NONE;
    if (badDay(day) || badYear(year)) return BAD;
    Prog p = progs.get(program);
    if (p.state != 2) return STATE;
    both(p, year);
    if (!p.wrong()) p.state = 3;
    return tell(program, hand, day);
  }

  int book(int i, int what) {
    if (i < 0 || i >= Math.min(200, book.size()) || what < 0 || what > 3) return -5;
    return book.get(i)[what];
  }

  private Run with(int program, int field, int digits, int pivot, int year) {
    Prog p = progs.get(program).copy();
    p.digits[field] = digits;
    p.pivots[field] = pivot;
    return go(p, false, inputOf(p, false), year);
  }

  private Run without(int program, int year) {
    Prog p = progs.get(program);
    return go(p, false, inputOf(p, false), year);
  }

  int breaks(int program, int field, int digits, int pivot, int what) {
    if (!is(program) || field < 0 || field > 5 || what < 0 || what > 1) return NONE;
    if (badKeeping(digits, pivot)) return BAD;
    TreeSet<Integer> years = new TreeSet<>();
    for (int y = 1900; y <= 2099; y++) {
      if (!with(program, field, digits, pivot, y).file.equals(without(program, y).file)) years.add(y);
    }
    return what == 0 ? years.size() : years.isEmpty() ? -1 : years.first();
  }

  // ---- chips, papers

  int chip(int pivot, int rule) {
    if (pivot < 0 || pivot > 100 || rule < 0 || rule > 2) return BAD;
    if (chips.size() == 6) return FULL;
    chips.add(new int[] {pivot, rule});
    asked.add(new ArrayList<>());
    return chips.size() - 1;
  }

  private int answer(int pivot, int rule, int year) {
    int y = meant(year % 100, pivot);
    return 2 * y + (leapYear(y, rule) ? 1 : 0);
  }

  int ask(int chip, int year) {
    if (chip < 0 || chip >= chips.size()) return NONE;
    if (badYear(year)) return BAD;
    if (asked.get(chip).size() == 30) return FULL;
    asked.get(chip).add(year);
    return answer(chips.get(chip)[0], chips.get(chip)[1], year);
  }

  int fit(int chip, int what) {
    if (chip < 0 || chip >= chips.size() || what < 0 || what > 3) return NONE;
    List<Integer> fits = new ArrayList<>();
    for (int c = 0; c < 303; c++) {
      boolean all = true;
      for (int y : asked.get(chip)) {
        all &= answer(c / 3, c % 3, y) == answer(chips.get(chip)[0], chips.get(chip)[1], y);
      }
      if (all) fits.add(c);
    }
    if (what < 2) return what == 0 ? fits.size() : fits.get(0);
    int best = Integer.MAX_VALUE;
    int bestYear = 0;
    for (int y = 1900; y <= 2099; y++) {
      Map<Integer, Integer> like = new HashMap<>();
      int most = 0;
      for (int c : fits) most = Math.max(most, like.merge(answer(c / 3, c % 3, y), 1, Integer::sum));
      if (most < best) {
        best = most;
        bestYear = y;
      }
    }
    return what == 2 ? bestYear : best;
  }

  int sign(int program, int day, boolean holds, int office, int known) {
    if (!is(program) || office < 0 || office > 5) return NONE;
    if (badDay(day) || badDay(known) || known < day) return BAD;
    if (papers.size() == 60) return FULL;
    papers.add(new int[] {program, day, holds ? 1 : 0, office, known});
    return papers.size() - 1;
  }

  int knew(int program, int office, int day) {
    if (!is(program) || office < 0 || office > 5 || badDay(day)) return -5;
    int[] best = null;
    for (int[] p : papers) {
      if (p[0] == program && p[3] == office && p[4] <= day && (best == null || p[1] >= best[1])) best = p;
    }
    return best == null ? -1 : best[2];
  }

  // ---- tests, whom first

  int testYear(int year) {
    if (badYear(year)) return BAD;
    if (tests.size() == 8) return FULL;
    tests.add(year);
    return tests.size() - 1;
  }

  int fault(int program, int field, int digits, int pivot) {
    if (!is(program) || field < 0 || field > 5) return NONE;
    if (badKeeping(digits, pivot)) return BAD;
    if (faults.size() == 8) return FULL;
    faults.add(new int[] {program, field, digits, pivot});
    return faults.size() - 1;
  }

  int shows(int test, int fault) {
    if (test < 0 || test >= tests.size() || fault < 0 || fault >= faults.size()) return NONE;
    int[] f = faults.get(fault);
    Run with = with(f[0], f[1], f[2], f[3], tests.get(test));
    Run without = without(f[0], tests.get(test));
    return with.end != without.end || !with.file.equals(without.file) ? 1 : 0;
  }

  int cover(int what) {
    if (what < 0 || what > 1) return NONE;
    int[] shown = new int[tests.size()];
    int all = 0;
    for (int t = 0; t < shown.length; t++) {
      for (int f = 0; f < faults.size(); f++) shown[t] |= shows(t, f) << f;
      all |= shown[t];
    }
    if (what == 1) return Integer.bitCount(all);
    for (int many = 0; ; many++) {
      for (int set = 0; set < 1 << shown.length; set++) {
        int got = 0;
        for (int t = 0; t < shown.length; t++) got |= (set >> t & 1) == 1 ? shown[t] : 0;
        if (Integer.bitCount(set) == many && got == all) return set;
      }
    }
  }

  /** HARM of a NIGHT in a copy of the land, in which FILES of some are those of their TWINS. */
  private int thoughtNight(int year, int asTwins, boolean untouched) {
    List<Prog> real = progs;
    int realRuns = runs;
    progs = new ArrayList<>();
    for (int i = 0; i < real.size(); i++) {
      Prog p = real.get(i).copy();
      if ((asTwins >> i & 1) == 1) p.file = p.twinFile;
      if (untouched) {
        Arrays.fill(p.digits, 2);
        Arrays.fill(p.pivots, -1);
        p.rule = 0;
        p.state = 0;
      }
      progs.add(p);
    }
    int harm = nightOf(year, asTwins);
    progs = real;
    runs = realRuns;
    return harm;
  }

  int first(int programs, int days, int year, int what) {
    if (what < 0 || what > 2 || programs < 0 || programs >> progs.size() != 0) return NONE;
    if (Integer.bitCount(programs) > 8 || days < 0 || days > 999 || badYear(year)) return BAD;
    int[] best = null;
    for (int set = 0; set <= programs; set++) {
      if ((set | programs) != programs) continue;
      int takes = 0;
      for (int i = 0; i < progs.size(); i++) takes += (set >> i & 1) * progs.get(i).days;
      if (takes > days) continue;
      int[] it = {thoughtNight(year, set, false), set, takes};
      if (best == null || it[0] < best[0] || it[0] == best[0] && it[2] < best[2]) best = it;
    }
    return best[what];
  }

  int beside(int year) {
    return badYear(year) ? BAD : thoughtNight(year, 0, true);
  }

  int stop(int place, int minute, int lasts, int weight) {
    if (place < 0 || place > 99 || minute < 0 || minute > 899 || lasts < 1 || lasts > 99 || weight < 0 || weight > 99) {
      return BAD;
    }
    if (stops.size() == 8) return FULL;
    stops.add(new int[] {place, minute, lasts, weight});
    return stops.size() - 1;
  }

  private boolean canMeet(int set) {
    List<int[]> own = new ArrayList<>();
    for (int i = 0; i < stops.size(); i++) if ((set >> i & 1) == 1) own.add(stops.get(i));
    own.sort((a, b) -> a[1] - b[1]);
    int[] at = {0, 0, 0};
    for (int[] s : own) {
      if (at[1] + at[2] + Math.abs(at[0] - s[0]) > s[1]) return false;
      at = s;
    }
    return true;
  }

  /** Tries each way to give each STOP to one HAND or to none. */
  int posts(int hands, int what) {
    if (what < 0 || what > 4) return NONE;
    if (hands < 1 || hands > 3) return BAD;
    if (what - 2 >= hands) return NONE;
    boolean[] can = new boolean[256];
    for (int set = 0; set < 1 << stops.size(); set++) can[set] = canMeet(set);
    int[] best = null;
    int ways = (int) Math.pow(hands + 1, stops.size());
    for (int way = 0; way < ways; way++) {
      int[] it = new int[5];
      int w = way;
      for (int s = 0; s < stops.size(); s++, w /= hands + 1) {
        int hand = w % (hands + 1);
        if (hand == hands) continue;
        it[0] += stops.get(s)[3];
        it[1] |= 1 << s;
        it[2 + hand] |= 1 << s;
      }
      if (!can[it[2]] || !can[it[3]] || !can[it[4]]) continue;
      if (best == null || isBetter(it, best)) best = it;
    }
    return best[what];
  }

  private static boolean isBetter(int[] a, int[] b) {
    if (a[0] != b[0]) return a[0] > b[0];
    if (a[1] != b[1]) return a[1] < b[1];
    if (a[2] != b[2]) return a[2] > b[2];
    if (a[3] != b[3]) return a[3] > b[3];
    return a[4] > b[4];
  }

  // ---- things, acts, sheets

  /** THINGS as Java itself would have them: a class a KIND. */
  private class Thing {
    final int m;
    final int z;

    Thing(int m, int z) {
      this.m = m;
      this.z = z;
    }

    int reads(int x) {
      trace.add(10);
      return x + z;
    }

    int feeds(int x) {
      trace.add(11);
      return reads(x) * 2;
    }

    int fails(int x) {
      trace.add(12);
      return feeds(x) ^ reads(x + m);
    }
  }

  private class FieldThing extends Thing {
    FieldThing(int m, int z) {
      super(m, z);
    }

    @Override int reads(int x) {
      trace.add(20);
      return super.reads(x) * 10;
    }
  }

  private class ProgramThing extends Thing {
    ProgramThing(int m, int z) {
      super(m, z);
    }

    @Override int feeds(int x) {
      trace.add(30);
      return super.feeds(x) + m;
    }
  }

  private class FileThing extends Thing {
    FileThing(int m, int z) {
      super(m, z);
    }

    @Override int fails(int x) {
      trace.add(40);
      return super.fails(x - 1);
    }
  }

  private class MendThing extends Thing {
    MendThing(int m, int z) {
      super(m, z);
    }

    @Override int feeds(int x) {
      trace.add(50);
      return super.feeds(x) - z;
    }
  }

  private class WindowThing extends FieldThing {
    WindowThing(int m, int z) {
      super(m, z);
    }

    @Override int reads(int x) {
      trace.add(60);
      return super.reads(x) - 19;
    }

    @Override int fails(int x) {
      trace.add(61);
      return super.fails(x) + 2;
    }
  }

  private class ChipThing extends ProgramThing {
    ChipThing(int m, int z) {
      super(m, z);
    }

    @Override int feeds(int x) {
      trace.add(70);
      return super.feeds(x) ^ 3;
    }
  }

  private Thing made(int m) {
    int z = things.get(m)[1];
    return switch (things.get(m)[0]) {
      case 0 -> new Thing(m, z);
      case 1 -> new FieldThing(m, z);
      case 2 -> new ProgramThing(m, z);
      case 3 -> new FileThing(m, z);
      case 4 -> new MendThing(m, z);
      case 5 -> new WindowThing(m, z);
      default -> new ChipThing(m, z);
    };
  }

  int thing(int kind, int size) {
    if (kind < 0 || kind > 6 || size < 0 || size > 99) return BAD;
    if (things.size() == 40) return FULL;
    things.add(new int[] {kind, size});
    return things.size() - 1;
  }

  int act(int thing, int act, int x) {
    trace = new ArrayList<>();
    if (thing < 0 || thing >= things.size() || act < 0 || act > 2) return 0;
    Thing t = made(thing);
    return act == 0 ? t.reads(x) : act == 1 ? t.feeds(x) : t.fails(x);
  }

  int trace(int i) {
    return i < 0 || i >= Math.min(20, trace.size()) ? NONE : trace.get(i);
  }

  int taken(int thing, int k) {
    if (k < 0 || k > 6) return BAD;
    if (thing < 0 || thing >= things.size()) return -11;
    Thing t = made(thing);
    boolean is = switch (k) {
      case 0 -> true;
      case 1 -> t instanceof FieldThing;
      case 2 -> t instanceof ProgramThing;
      case 3 -> t instanceof FileThing;
      case 4 -> t instanceof MendThing;
      case 5 -> t instanceof WindowThing;
      default -> t instanceof ChipThing;
    };
    return is ? things.get(thing)[0] : -13;
  }

  int count(int what) {
    return switch (what) {
      case 0 -> progs.size();
      case 1 -> chips.size();
      case 2 -> things.size();
      case 3 -> (int) progs.stream().filter(p -> p.state == 4).count();
      case 4 -> (int) progs.stream().filter(p -> p.state == 5).count();
      case 5 -> (int) progs.stream().filter(Prog::wrong).count();
      case 6 -> book.size();
      case 7 -> papers.size();
      case 8 -> tests.size();
      case 9 -> faults.size();
      case 10 -> tape.length();
      case 11 -> runs;
      case 12 -> trace.size();
      case 13 -> stops.size();
      default -> BAD;
    };
  }

  int sheet(int sheet, int sort, int n) {
    if (sheet < 0 || sheet > 2 || sort < -1 || sort > 2) return BAD;
    if (sort >= 0 && n > 40) return BAD;
    if (sort >= 0 && n < 0) return -14;
    sorts[sheet] = sort;
    sheets[sheet] = sort < 0 ? null : new int[n];
    return 1;
  }

  int cell(int sheet, int i, int v) {
    if (sheet < 0 || sheet > 2) return BAD;
    if (sorts[sheet] < 0) return -11;
    if (i < 0 || i >= sheets[sheet].length) return -12;
    sheets[sheet][i] = sorts[sheet] == 0 ? (byte) v : sorts[sheet] == 1 ? (short) v : v;
    return 1;
  }

  int copy(int sheet, int i, int other, int j, int n) {
    if (sheet < 0 || sheet > 2 || other < 0 || other > 2) return BAD;
    if (sorts[sheet] < 0 || sorts[other] < 0) return -11;
    if (sorts[sheet] != sorts[other]) return -13;
    if (n < 0 || i < 0 || j < 0) return -12;
    if ((long) i + n > sheets[sheet].length || (long) j + n > sheets[other].length) return -12;
    int[] before = sheets[sheet].clone();
    for (int k = 0; k < n; k++) sheets[other][j + k] = before[i + k];
    return n;
  }

  private boolean is(int program) {
    return program >= 0 && program < progs.size();
  }

  private static boolean badYear(int year) {
    return year < 1900 || year > 2099;
  }

  private static boolean badDay(int day) {
    return day < 0 || day > 999;
  }

  private static boolean badKeeping(int digits, int pivot) {
    return digits != 2 && digits != 4 || pivot < -1 || pivot > 100;
  }
}
