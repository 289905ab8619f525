/** Promises 17 to 22: STATES, mends, tests, THE BOOK and BREAKS. */
public final class StatesTest {
  private static final Check check = new Check("StatesTest");

  private StatesTest() {
  }

  public static void main(String[] args) {
    promise17Does();
    promise17Refusals();
    promise17Off();
    promise18Mend();
    promise18Refusals();
    promise19MendRule();
    promise20Test();
    promise20Refusals();
    promise21Book();
    promise21Kept();
    promise22Breaks();
    promise22Refusals();
    check.finish();
  }

  /** One PROGRAM in a STATE, its first FIELD of 4 digits from mended on. */
  private static TwoDigits in(int state) {
    TwoDigits x = Land.with("now a;out a");
    if (state >= 1) {
      x.does(0, 0, 0, 0);
    }
    if (state >= 2) {
      x.mend(0, 0, 0, 0, 4, -1);
    }
    if (state >= 3) {
      x.test(0, 0, 0, 2000);
    }
    if (state >= 4) {
      x.does(0, 0, 0, 1);
    }
    if (state >= 5) {
      x.does(0, 0, 0, 2);
    }
    check.due("state", x.programOf(0, 0), state);
    return x;
  }

  private static void promise17Does() {
    int[][] next = {
      {1, -3, 5, -3}, {-3, -3, 5, -3}, {-3, -3, 5, -3}, {-3, 4, 5, -3}, {-3, -3, 5, -3}, {-3, -3, -3, 4}};
    for (int state = 0; state <= 5; state++) {
      for (int what = 0; what <= 3; what++) {
        TwoDigits x = in(state);
        int booked = x.count(6);
        int want = next[state][what];
        check.due("in " + state + " does " + what, x.does(0, 7, 999, what), want);
        check.due("state then", x.programOf(0, 0), want < 0 ? state : want);
        check.due("booked", x.count(6), want < 0 ? booked : booked + 1);
      }
    }
  }

  private static void promise17Refusals() {
    TwoDigits x = Land.with("now a;out a");
    check.due("no such program", x.does(1, 0, 0, 0), -1);
    check.due("no such program", x.does(-1, 0, 1000, 0), -1);
    check.due("no such hand", x.does(0, 8, 0, 0), -1);
    check.due("no such hand, ahead of the day", x.does(0, -1, 1000, 0), -1);
    check.due("no such what", x.does(0, 0, 0, 4), -1);
    check.due("no such what, ahead of the day", x.does(0, 0, -1, -1), -1);
    check.due("no day", x.does(0, 0, 1000, 0), -2);
    check.due("no day, ahead of the state", x.does(0, 0, -1, 1), -2);
    check.due("not as told", x.does(0, 0, 999, 1), -3);
    check.due("unread still", x.programOf(0, 0), 0);
    check.due("nothing in the book", x.count(6), 0);
  }

  private static void promise17Off() {
    for (int state = 0; state <= 4; state++) {
      TwoDigits x = in(state);
      x.run(0, 1999);
      check.due("off from " + state, x.does(0, 0, 1, 2), 5);
      check.due("no run last made", x.programOf(0, 6), -1);
      check.due("off again", x.does(0, 0, 1, 2), -3);
      check.due("one off", x.count(4), 1);
      check.due("back to " + state, x.does(0, 0, 2, 3), state);
      check.due("none off", x.count(4), 0);
      check.due("in use", x.count(3), state == 4 ? 1 : 0);
      check.due("still no run last made", x.programOf(0, 7), -1);
      check.due("not off", x.does(0, 0, 2, 3), -3);
    }
  }

  private static void promise18Mend() {
    for (int state = 0; state <= 5; state++) {
      TwoDigits x = in(state);
      boolean can = state >= 1 && state <= 3;
      int digits = x.field(0, 0, 0);
      check.due("mend in " + state, x.mend(0, 3, 4, 0, 2, 33), can ? 2 : -3);
      check.due("state then", x.programOf(0, 0), can ? 2 : state);
      check.due("digits then", x.field(0, 0, 0), can ? 2 : digits);
      check.due("pivot then", x.field(0, 0, 1), can ? 33 : -1);
    }
    TwoDigits x = in(1);
    x.run(0, 1999);
    check.due("wrong", x.programOf(0, 10), 1);
    check.due("mend", x.mend(0, 0, 0, 0, 4, 100), 2);
    check.due("digits", x.field(0, 0, 0), 4);
    check.due("pivot", x.field(0, 0, 1), 100);
    check.due("another field", x.field(0, 1, 0), 2);
    check.due("the run last made is as it was", x.programOf(0, 10), 1);
    x.run(0, 1999);
    check.due("not wrong", x.programOf(0, 10), 0);
    check.due("mend", x.mend(0, 0, 0, 5, 4, 0), 2);
    check.due("pivot 0", x.field(0, 5, 1), 0);
    check.due("mend", x.mend(0, 0, 0, 5, 2, -1), 2);
    check.due("none again", x.field(0, 5, 1), -1);
    check.due("digits", x.field(0, 5, 0), 2);
  }

  private static void promise18Refusals() {
    TwoDigits x = in(1);
    check.due("no such program", x.mend(1, 0, 0, 0, 2, 5), -1);
    check.due("no such program", x.mend(-1, 0, 1000, 0, 2, 5), -1);
    check.due("no such field", x.mend(0, 0, 0, 6, 2, 5), -1);
    check.due("no such field, ahead of the digits", x.mend(0, 0, 0, -1, 3, 5), -1);
    check.due("no such hand", x.mend(0, 8, 0, 0, 2, 5), -1);
    check.due("no such hand, ahead of the pivot", x.mend(0, -1, 0, 0, 2, 101), -1);
    check.due("no day", x.mend(0, 0, 1000, 0, 2, 5), -2);
    check.due("no day", x.mend(0, 0, -1, 0, 2, 5), -2);
    int[] digits = {0, 1, 3, 5, -2, 22};
    for (int no : digits) {
      check.due("digits " + no, x.mend(0, 0, 0, 0, no, 5), -2);
    }
    check.due("pivot", x.mend(0, 0, 0, 0, 2, 101), -2);
    check.due("pivot", x.mend(0, 0, 0, 0, 2, -2), -2);
    check.due("nothing changed", x.field(0, 0, 1), -1);
    check.due("read still", x.programOf(0, 0), 1);
    check.due("only the reading in the book", x.count(6), 1);
    TwoDigits y = in(0);
    check.due("BAD ahead of STATE", y.mend(0, 0, 0, 0, 2, 101), -2);
    check.due("STATE", y.mend(0, 0, 0, 0, 2, 100), -3);
  }

  private static void promise19MendRule() {
    for (int state = 0; state <= 5; state++) {
      TwoDigits x = in(state);
      boolean can = state >= 1 && state <= 3;
      check.due("mendRule in " + state, x.mendRule(0, 3, 4, 2), can ? 2 : -3);
      check.due("state then", x.programOf(0, 0), can ? 2 : state);
      check.due("rule then", x.programOf(0, 2), can ? 2 : 0);
    }
    TwoDigits x = in(1);
    check.due("no such program", x.mendRule(1, 0, 0, 0), -1);
    check.due("no such program", x.mendRule(-1, 0, 0, 3), -1);
    check.due("no such hand", x.mendRule(0, 8, 0, 0), -1);
    check.due("no such hand, ahead of the day", x.mendRule(0, -1, -1, 0), -1);
    check.due("no day", x.mendRule(0, 0, 1000, 0), -2);
    check.due("no day", x.mendRule(0, 0, -1, 0), -2);
    check.due("rule", x.mendRule(0, 0, 0, 3), -2);
    check.due("rule", x.mendRule(0, 0, 0, -1), -2);
    check.due("read still", x.programOf(0, 0), 1);
    check.due("rule 1", x.mendRule(0, 0, 0, 1), 2);
    check.due("it is", x.programOf(0, 2), 1);
    check.due("rule 0", x.mendRule(0, 0, 0, 0), 2);
    check.due("it is", x.programOf(0, 2), 0);
    check.due("BAD ahead of STATE", in(0).mendRule(0, 0, 0, 3), -2);
  }

  private static void promise20Test() {
    for (int state = 0; state <= 5; state++) {
      TwoDigits x = in(state);
      int runs = x.count(11);
      check.due("test in " + state, x.test(0, 3, 4, 2000), state == 2 ? 3 : -3);
      check.due("state then", x.programOf(0, 0), state == 2 ? 3 : state);
      check.due("runs then", x.count(11), state == 2 ? runs + 1 : runs);
    }
    TwoDigits x = in(1);
    x.mendRule(0, 0, 0, 1);
    check.due("a wrong one stays", x.test(0, 2, 5, 2000), 2);
    check.due("the state is the same", x.programOf(0, 0), 2);
    check.due("it was run", x.programOf(0, 6), 0);
    check.due("it is wrong", x.programOf(0, 10), 1);
    check.due("its file is written", x.file(0, 0, true), 2000);
    check.due("it was counted", x.count(11), 1);
    check.due("it is in the book", x.count(6), 3);
    check.due("with its state then", x.book(2, 3), 2);
    check.due("and its hand", x.book(2, 1), 2);
    x.mend(0, 0, 0, 0, 4, -1);
    check.due("then it is tested", x.test(0, 2, 5, 2000), 3);
    check.due("and not again", x.test(0, 2, 5, 2000), -3);
  }

  private static void promise20Refusals() {
    TwoDigits x = in(2);
    check.due("no such program", x.test(1, 0, 0, 2000), -1);
    check.due("no such program", x.test(-1, 0, 0, 1899), -1);
    check.due("no such hand", x.test(0, 8, 0, 2000), -1);
    check.due("no such hand, ahead of the day", x.test(0, -1, 1000, 2000), -1);
    check.due("no day", x.test(0, 0, 1000, 2000), -2);
    check.due("no day", x.test(0, 0, -1, 2000), -2);
    check.due("year", x.test(0, 0, 0, 1899), -2);
    check.due("year", x.test(0, 0, 0, 2100), -2);
    check.due("no run", x.count(11), 0);
    check.due("mended still", x.programOf(0, 0), 2);
    check.due("BAD ahead of STATE", in(0).test(0, 0, 0, 2100), -2);
    check.due("the last day, the last hand", x.test(0, 7, 999, 2099), 3);
  }

  private static void promise21Book() {
    TwoDigits x = Land.with("now a;out a", "end");
    x.does(1, 7, 999, 0);
    x.does(1, 7, 999, 0);
    x.does(0, 1, 2, 0);
    x.mend(1, 2, 3, 0, 4, 1);
    x.mendRule(1, 3, 4, 1);
    x.test(1, 4, 5, 2000);
    x.does(1, 5, 6, 1);
    x.does(0, 6, 7, 2);
    x.does(0, 0, 0, 3);
    int[][] want = {
      {1, 7, 999, 1}, {0, 1, 2, 1}, {1, 2, 3, 2}, {1, 3, 4, 2}, {1, 4, 5, 3}, {1, 5, 6, 4}, {0, 6, 7, 5}, {0, 0, 0, 1}};
    for (int i = 0; i < want.length; i++) {
      for (int what = 0; what < 4; what++) {
        check.due("book(" + i + ", " + what + ")", x.book(i, what), want[i][what]);
      }
    }
    check.due("none such", x.book(8, 0), -5);
    check.due("none such", x.book(-1, 0), -5);
    check.due("none such", x.book(Integer.MIN_VALUE, 3), -5);
    check.due("no such what", x.book(0, 4), -5);
    check.due("no such what", x.book(0, -1), -5);
    check.due("in all", x.count(6), 8);
  }

  private static void promise21Kept() {
    TwoDigits x = in(1);
    for (int i = 1; i < 230; i++) {
      x.mendRule(0, i % 8, i, i % 3);
    }
    check.due("in all", x.count(6), 230);
    check.due("the last kept", x.book(199, 2), 199);
    check.due("no more are kept", x.book(200, 2), -5);
    check.due("the first", x.book(0, 2), 0);
    check.due("the second", x.book(1, 1), 1);
    check.due("what is not kept happened all the same", x.programOf(0, 2), 229 % 3);
  }

  private static void promise22Breaks() {
    TwoDigits x = Land.with("now a;set b 49;if a<b 5;out b;end;out a");
    check.due("as it is", x.breaks(0, 0, 2, -1, 0), 0);
    check.due("as it is: no first", x.breaks(0, 0, 2, -1, 1), -1);
    check.due("four digits: those that were below 49", x.breaks(0, 0, 4, -1, 0), 98);
    check.due("the first", x.breaks(0, 0, 4, -1, 1), 1900);
    check.due("a pivot: those that were below 49", x.breaks(0, 0, 2, 7, 0), 98);
    check.due("b of four digits", x.breaks(0, 1, 4, -1, 0), 0);
    check.due("a pivot of b: all are below 1949; 49 writes 49 anyhow", x.breaks(0, 1, 2, 0, 0), 100);
    check.due("the first", x.breaks(0, 1, 2, 0, 1), 1950);
    check.due("another field", x.breaks(0, 5, 4, 3, 0), 0);
    check.due("nothing was run", x.count(11), 0);
    check.due("nothing changed", x.field(0, 0, 0), 2);
    check.due("no file was written", x.programOf(0, 4), 0);
    TwoDigits y = Land.with("now a;set b 50;if a<b 4;in c");
    check.due("another end is no other file", y.breaks(0, 0, 4, -1, 0), 0);
    TwoDigits z = Land.with("in a;now b;if a=b 4;end;out c", "now f;out f");
    z.input(0, 1);
    check.due("an empty input", z.breaks(0, 1, 4, -1, 0), 0);
    z.run(1, 1999);
    check.due("99 is 1999 and 2099", z.breaks(0, 1, 4, -1, 0), 2);
    check.due("the first", z.breaks(0, 1, 4, -1, 1), 1999);
    z.does(0, 0, 0, 0);
    z.mend(0, 0, 0, 0, 2, 50);
    check.due("as mended: 1999 has none now", z.breaks(0, 1, 4, -1, 0), 1);
    check.due("the first", z.breaks(0, 1, 4, -1, 1), 1999);
    check.due("both windows", z.breaks(0, 1, 2, 50, 0), 2);
    check.due("the rule is as it is: 0 is 2000 then", read("now a;leap a 3;end;out a", 2).breaks(0, 0, 2, 50, 0), 2);
    check.due("the first", read("now a;leap a 3;end;out a", 2).breaks(0, 0, 2, 50, 1), 1900);
  }

  private static TwoDigits read(String text, int rule) {
    TwoDigits x = Land.with(text);
    x.does(0, 0, 0, 0);
    x.mendRule(0, 0, 0, rule);
    return x;
  }

  private static void promise22Refusals() {
    TwoDigits x = Land.with("now a;out a");
    check.due("no such program", x.breaks(1, 0, 3, 0, 0), -1);
    check.due("no such program", x.breaks(-1, 0, 2, 0, 0), -1);
    check.due("no such field", x.breaks(0, 6, 3, 0, 0), -1);
    check.due("no such field", x.breaks(0, -1, 2, 0, 0), -1);
    check.due("no such what", x.breaks(0, 0, 4, 0, 2), -1);
    check.due("no such what, ahead of the digits", x.breaks(0, 0, 3, 0, -1), -1);
    check.due("digits", x.breaks(0, 0, 3, 0, 0), -2);
    check.due("pivot", x.breaks(0, 0, 2, 101, 0), -2);
    check.due("pivot", x.breaks(0, 0, 2, -2, 1), -2);
    check.due("all years", x.breaks(0, 0, 4, 100, 0), 200);
    check.due("the first", x.breaks(0, 0, 4, 100, 1), 1900);
  }
}
