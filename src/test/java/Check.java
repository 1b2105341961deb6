/** What all tests share: answers that are due, and texts that are typed. */
final class Check {
  private static int wrong = 0;
  private static int looked = 0;

  private Check() {
  }

  static void due(String call, long got, long want) {
    looked++;
    if (got != want) {
      wrong++;
      if (wrong <= 100) {
        System.out.println(call + " answered " + got + ", due is " + want);
      }
    }
  }

  static boolean anyWrong() {
    return wrong > 0;
  }

  static void end() {
    System.out.println(looked + " answers, " + wrong + " of them not as due");
    if (wrong > 0) {
      System.exit(1);
    }
  }

  /** A w for type(): the characters of a text from some place on, at most eight. */
  static long packed(String text, int from) {
    long w = 0;
    for (int i = 0; i < 8 && from + i < text.length(); i++) {
      w |= (long) (text.charAt(from + i) & 255) << (8 * i);
    }
    return w;
  }

  static void typeAll(FleetController x, String text) {
    for (int i = 0; i < text.length(); i += 8) {
      x.type(packed(text, i));
    }
  }

  static FleetController withText(String text) {
    FleetController x = new FleetController();
    typeAll(x, text);
    return x;
  }

  static FleetController withMap(String text) {
    FleetController x = withText(text);
    int cells = text.replace("/", "").length();
    due("read() of " + text, x.read(), cells);
    return x;
  }

  static void path(FleetController x, int r, int from, int... cells) {
    for (int i = 0; i < cells.length; i++) {
      due("was(" + r + ", " + (from + i) + ")", x.was(r, from + i), cells[i]);
    }
  }

  static void plan(FleetController x, int r, int... cells) {
    for (int k = 0; k < cells.length; k++) {
      due("ahead(" + r + ", " + k + ")", x.ahead(r, k), cells[k]);
    }
  }
}
