import java.util.ArrayList;
import java.util.List;
import java.util.function.ToIntFunction;

/** What all tests share: answers that are due, and texts that are typed. */
final class Check {
  private static int wrong = 0;
  private static int looked = 0;
  private static String sentence = "";

  private Check() {
  }

  /** The words of the document by which the next answers are due. */
  static void sentence(String words) {
    sentence = words + " | ";
  }

  static void due(String call, long got, long want) {
    looked++;
    if (got != want) {
      wrong++;
      if (wrong <= 100) {
        System.out.println(sentence + call + " answered " + got + ", due is " + want);
      }
    }
  }

  /** A call with which nothing is done. */
  static void doesNothing(String call, FleetController x, ToIntFunction<FleetController> made, int want) {
    int place = x.place();
    List<Integer> before = told(x);
    due(call, made.applyAsInt(x), want);
    due(call + " and place()", x.place(), place);
    due(call + " leaves all as it was", told(x).equals(before) ? 1 : 0, 1);
  }

  /** All that a small object tells, but place(). */
  static List<Integer> told(FleetController x) {
    List<Integer> told = new ArrayList<>();
    told.add(x.type(0));
    for (int what = 0; what <= 10; what++) {
      told.add(x.count(what));
    }
    for (int c = 0; c < x.count(0); c++) {
      told.add(x.cell(c));
    }
    for (int r = 0; r < x.count(1); r++) {
      for (int what = 0; what <= 7; what++) {
        told.add(x.robotOf(r, what));
      }
      for (int k = 0; k <= 9; k++) {
        told.add(x.ahead(r, k));
        told.add(x.was(r, k));
      }
    }
    for (int i = 0; i < Math.min(x.count(4), 4); i++) {
      for (int what = 0; what <= 8; what++) {
        told.add(x.task(i, what));
      }
    }
    for (int i = 0; i < Math.min(x.count(2), 3); i++) {
      for (int what = 0; what <= 5; what++) {
        told.add(x.orderOf(i, what));
      }
    }
    return told;
  }

  static boolean anyWrong() {
    return wrong > 0;
  }

  static void end() {
    System.out.println(looked + " answers, " + wrong + " of them not as due");
    if (wrong > 0) {
      System.exit(1);
    }
  }

  /** A w for type(): the characters of a text from some place on, at most eight. */
  static long packed(String text, int from) {
    long w = 0;
    for (int i = 0; i < 8 && from + i < text.length(); i++) {
      w |= (long) (text.charAt(from + i) & 255) << (8 * i);
    }
    return w;
  }

  static void typeAll(FleetController x, String text) {
    for (int i = 0; i < text.length(); i += 8) {
      x.type(packed(text, i));
    }
  }

  static FleetController withText(String text) {
    FleetController x = new FleetController();
    typeAll(x, text);
    return x;
  }

  static FleetController withMap(String text) {
    FleetController x = withText(text);
    int cells = text.replace("/", "").length();
    due("read() of " + text, x.read(), cells);
    return x;
  }

  static void path(FleetController x, int r, int from, int... cells) {
    for (int i = 0; i < cells.length; i++) {
      due("was(" + r + ", " + (from + i) + ")", x.was(r, from + i), cells[i]);
    }
  }

  static void plan(FleetController x, int r, int... cells) {
    for (int k = 0; k < cells.length; k++) {
      due("ahead(" + r + ", " + k + ")", x.ahead(r, k), cells[k]);
    }
  }
}
