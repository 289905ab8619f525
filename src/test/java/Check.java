/** Counts the answers that are as due, and prints each that is not. */
final class Check {
  private final String name;
  private int right;
  private int wrong;

  Check(String name) {
    this.name = name;
  }

  void due(String call, long got, long want) {
    if (got == want) {
      right++;
    } else {
      wrong++;
      System.out.println(name + ": " + call + " answered " + got + ", due is " + want);
    }
  }

  void holds(String what, boolean it) {
    due(what, it ? 1 : 0, 1);
  }

  void finish() {
    System.out.println(name + ": " + right + " as due, " + wrong + " not");
    if (wrong > 0) {
      System.exit(1);
    }
  }
}
