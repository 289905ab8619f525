import java.util.Random;

/** Texts of programs by chance. */
final class Programs {
  private static final String[] OPS = {
    "now", "now", "in", "in", "out", "out", "out", "set", "mov", "add", "sub", "if", "if", "if", "leap", "go", "end"};
  private static final String SIGNS = "abcfg 019;<=>inowsetubdlpm\u00e9";

  private Programs() {
  }

  static String sound(Random chance) {
    int lines = 1 + chance.nextInt(12);
    StringBuilder text = new StringBuilder();
    for (int i = 0; i < lines; i++) {
      text.append(i == 0 ? "" : ";").append(line(chance, lines));
    }
    return text.toString();
  }

  private static String line(Random chance, int lines) {
    String op = OPS[chance.nextInt(OPS.length)];
    switch (op) {
      case "now": case "in": case "out": return op + " " + field(chance);
      case "set": return op + " " + field(chance) + " " + number(chance);
      case "mov": case "add": case "sub": return op + " " + field(chance) + " " + field(chance);
      case "if": return op + " " + field(chance) + "<=".charAt(chance.nextInt(2)) + field(chance) + " "
          + target(chance, lines);
      case "leap": return op + " " + field(chance) + " " + target(chance, lines);
      case "go": return op + " " + target(chance, lines);
      default: return op;
    }
  }

  private static char field(Random chance) {
    return (char) ('a' + (chance.nextInt(4) > 0 ? chance.nextInt(3) : chance.nextInt(6)));
  }

  private static String number(Random chance) {
    int figures = 1 + chance.nextInt(4);
    StringBuilder text = new StringBuilder();
    for (int i = 0; i < figures; i++) {
      text.append(chance.nextInt(10));
    }
    return text.toString();
  }

  private static String target(Random chance, int lines) {
    int line = chance.nextInt(10) == 0 ? chance.nextInt(100) : chance.nextInt(lines + 2);
    return line < 10 && chance.nextInt(5) == 0 ? "0" + line : "" + line;
  }

  /** A text that is mostly no PROGRAM: cut short, with a sign more, less or another. */
  static String broken(Random chance) {
    StringBuilder text = new StringBuilder(sound(chance));
    int at = chance.nextInt(text.length());
    char sign = SIGNS.charAt(chance.nextInt(SIGNS.length()));
    switch (chance.nextInt(5)) {
      case 0: text.setLength(at); break;
      case 1: text.insert(at, sign); break;
      case 2: text.deleteCharAt(at); break;
      case 3: text.append(";").append("end".substring(chance.nextInt(4))); break;
      default: text.setCharAt(at, sign); break;
    }
    return text.toString();
  }
}
