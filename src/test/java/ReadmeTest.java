import java.io.IOException;
import java.nio.file.Files;
import java.nio.file.Path;
import java.util.regex.Matcher;
import java.util.regex.Pattern;

/** Does the calls that README.md shows: each is to answer what stands behind it there. */
public final class ReadmeTest {
  private static final Pattern CALL = Pattern.compile("land\\.(\\w+\\([^)]*)\\);\\s*// (-?\\w+).*");
  private static final Pattern HEX = Pattern.compile("0x[0-9a-f]+");

  private ReadmeTest() {
  }

  public static void main(String[] args) throws IOException {
    Check check = new Check("ReadmeTest");
    TwoDigits land = new TwoDigits();
    int calls = 0;
    for (String line : Files.readString(Path.of("README.md")).split("\n")) {
      Matcher call = CALL.matcher(line);
      if (line.equals("TwoDigits land = new TwoDigits();")) {
        land = new TwoDigits();
      } else if (call.matches()) {
        calls++;
        check.due(line, Script.answer(land, plain(call.group(1))), Script.number(call.group(2)));
      } else {
        check.holds("each call that is shown has its answer: " + line, !line.startsWith("land."));
      }
    }
    check.holds("calls are shown", calls > 0);
    check.finish();
  }

  private static String plain(String call) {
    return HEX.matcher(call.replace("TwoDigits.", "")).replaceAll(hex -> "" + Integer.decode(hex.group()));
  }
}
