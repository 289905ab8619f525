import java.lang.reflect.InvocationTargetException;
import java.lang.reflect.Method;
import java.util.HashMap;
import java.util.Map;

/**
 * A run of calls on a new object, a line each, with the answer that is due behind it (or none, where
 * it does not matter): "feed(101, 1) 1". The answers NONE, BAD, STATE, FULL may stand as names. A text
 * in quotes is fed and read as a PROGRAM; "shelve 0: 5 6" puts numbers on a SHELF, by way of SHEET 2;
 * "12 x" ahead of a line does it so often.
 */
final class Script {
  private static final Map<String, Method> FACE = new HashMap<>();

  static {
    for (Method m : TwoDigits.class.getDeclaredMethods()) {
      FACE.put(m.getName(), m);
    }
  }

  private final Check check;
  private final String sentence;
  private final TwoDigits x = new TwoDigits();

  private Script(Check check, String sentence) {
    this.check = check;
    this.sentence = sentence;
  }

  /** Does all calls, and names the sentence of the document where an answer is not as due. */
  static void run(Check check, String sentence, String calls) {
    Script script = new Script(check, sentence);
    for (String line : calls.split("\n")) {
      script.line(line.trim());
    }
  }

  private void line(String line) {
    int times = 1;
    String call = line;
    if (line.matches("\\d+ x .*")) {
      times = Integer.parseInt(line.substring(0, line.indexOf(' ')));
      call = line.substring(line.indexOf(" x ") + 3);
    }
    for (int i = 0; i < times; i++) {
      once(call);
    }
  }

  private void once(String call) {
    if (call.startsWith("shelve ")) {
      shelve(call.substring(7).split(":? "));
      return;
    }
    boolean isText = call.startsWith("\"");
    int end = isText ? call.lastIndexOf('"') : call.indexOf(')');
    String due = call.substring(end + 1).trim();
    int got = isText ? Land.program(x, call.substring(1, end)) : answer(x, call.substring(0, end));
    if (!due.isEmpty()) {
      check.due("\"" + sentence + "\": " + call.substring(0, end + 1), got, number(due));
    }
  }

  private void shelve(String[] words) {
    int[] numbers = new int[words.length - 1];
    for (int i = 0; i < numbers.length; i++) {
      numbers[i] = number(words[1 + i]);
    }
    Land.shelf(x, number(words[0]), numbers);
  }

  /** What a call answers, told without its last bracket. */
  static int answer(TwoDigits x, String call) {
    int open = call.indexOf('(');
    Method method = FACE.get(call.substring(0, open));
    String told = call.substring(open + 1).trim();
    String[] words = told.isEmpty() ? new String[0] : told.split(", *");
    Object[] given = new Object[words.length];
    for (int i = 0; i < given.length; i++) {
      given[i] = method.getParameterTypes()[i] == boolean.class ? (Object) Boolean.valueOf(words[i]) : number(words[i]);
    }
    try {
      return (Integer) method.invoke(x, given);
    } catch (IllegalAccessException | InvocationTargetException e) {
      throw new IllegalStateException(call + ")", e);
    }
  }

  static int number(String word) {
    switch (word) {
      case "NONE": return TwoDigits.NONE;
      case "BAD": return TwoDigits.BAD;
      case "STATE": return TwoDigits.STATE;
      case "FULL": return TwoDigits.FULL;
      case "MAX": return Integer.MAX_VALUE;
      case "MIN": return Integer.MIN_VALUE;
      default: return Integer.parseInt(word);
    }
  }
}
