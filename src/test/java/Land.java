/** Short ways to tell a TwoDigits something in tests. */
final class Land {
  private Land() {
  }

  /** Feeds a text, four bytes a call: how many bytes THE TAPE has then. */
  static int feed(TwoDigits x, String text) {
    int size = x.count(10);
    for (int i = 0; i < text.length(); i += 4) {
      int n = Math.min(4, text.length() - i);
      int word = 0;
      for (int k = 0; k < n; k++) {
        word = word << 8 | text.charAt(i + k) & 255;
      }
      size = x.feed(word, n);
    }
    return size;
  }

  /** Feeds a text and reads it: what program() answers. */
  static int program(TwoDigits x, String text) {
    feed(x, text);
    return x.program();
  }

  /** Puts numbers on the SHELF of a PROGRAM, by way of SHEET 2. */
  static void shelf(TwoDigits x, int program, int... numbers) {
    x.sheet(2, 2, numbers.length);
    for (int i = 0; i < numbers.length; i++) {
      x.cell(2, i, numbers[i]);
    }
    x.shelf(program, 2, 2, 0, numbers.length);
  }

  static TwoDigits with(String... texts) {
    TwoDigits x = new TwoDigits();
    for (String text : texts) {
      program(x, text);
    }
    return x;
  }
}
