/** Counts the answers that are not as due, and ends a test. */
final class Due {
  static final int BEYOND = -1000001;
  static final int NONE = -1000002;
  static final int STATE = -1000003;
  static final int FULL = -1000004;
  static final int KIND = -1000005;

  private final String test;
  private int wrong = 0;
  private int asked = 0;

  Due(String test) {
    this.test = test;
  }

  void is(String call, long got, long want) {
    asked++;
    if (got != want) {
      wrong++;
      System.out.println(test + ": " + call + " answered " + got + ", due is " + want);
    }
  }

  void end() {
    System.out.println(test + ": " + asked + " asked, " + wrong + " not as due");
    if (wrong != 0) {
      System.exit(1);
    }
  }

  /** Puts the numbers on a SHEET of so many bits. */
  static void fill(DesertWire x, int sheet, int bits, int... numbers) {
    x.sheet(sheet, bits, numbers.length);
    for (int i = 0; i < numbers.length; i++) {
      x.put(sheet, i, numbers[i]);
    }
  }

  /** Brings a text to THE TAPE. */
  static void type(DesertWire x, String text) {
    for (int at = 0; at < text.length(); at += 8) {
      long word = 0;
      int n = Math.min(8, text.length() - at);
      for (int i = n - 1; i >= 0; i--) {
        word = word << 8 | text.charAt(at + i) & 255;
      }
      x.feed(word, n);
    }
  }
}
