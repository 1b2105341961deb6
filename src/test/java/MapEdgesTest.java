import java.util.List;

/** Term 1 and promises 1 to 7: a test for each sentence that names an edge. */
public final class MapEdgesTest {
  private static final int NONE = FleetController.NONE;
  private static final int BAD = FleetController.BAD;
  private static final int FULL = FleetController.FULL;
  private static final int NOT = FleetController.NOT;
  private static final int SIGN = FleetController.SIGN;
  private static final int SHAPE = FleetController.SHAPE;
  private static final int KIND = FleetController.KIND;
  private static final int JOINED = FleetController.JOINED;
  // Eight lines of ten: 80 cells and 87 characters, the most that a map can have. The floor winds
  // from p in cell 0 down to s in 70 and t in 79.
  private static final String MOST = "p........./#########./........../.#########/"
      + "........../#########./........../s########t";
  // p0 s2 t4 in the first line, p10 s12 t14 in the third, 5 .. 9 the floor between.
  private static final String COMB = "p#s#t/...../p#s#t";

  public static void main(String[] args) {
    nothingBegun();
    atMost90Characters();
    upToEightMore();
    upToTheFirstZero();
    lowestFirst();
    fullAndNoneComes();
    howManyItHad();
    oneToEightLines();
    linesOfOneToTen();
    cellsLineByLine();
    movesEndAtTheEdge();
    distanceOfTwoCells();
    charactersThatAreNoneOfThese();
    emptyLine();
    shorterLine();
    longerLine();
    eleventhCharacter();
    lineBehindTheEighth();
    lesserPlaceOfSignAndShape();
    noneOfAKind();
    notJoined();
    firstOfTheFaults();
    howManyCells();
    textStays();
    allIsGone();
    anotherMapEachTime();
    faultLeavesAll();
    faultWithoutAMap();
    placeOfTheLatestRead();
    noSuchCell();
    distanceOfNoSuchCell();
    the512thCall();
    Check.end();
  }

  private static void fault(String text, int code, int place) {
    FleetController x = Check.withText(text);
    Check.due("read() of '" + text + "'", x.read(), code);
    Check.due("place() in '" + text + "'", x.place(), place);
    Check.due("cells of '" + text + "'", x.count(0), 0);
  }

  private static FleetController withLength(int length) {
    FleetController x = Check.withText(".".repeat(length));
    Check.due("typed " + length, x.type(0), length);
    return x;
  }

  private static void nothingBegun() {
    Check.sentence("No text, no map, nothing begun.");
    FleetController x = new FleetController();
    Check.due("place()", x.place(), NONE);
    Check.due("erase()", x.erase(), 0);
    Check.due("type(0)", x.type(0), 0);
    for (int what = 0; what <= 10; what++) {
      Check.due("count(" + what + ")", x.count(what), 0);
    }
    Check.due("cell(0)", x.cell(0), NONE);
    Check.due("distance(0, 0)", x.distance(0, 0), BAD);
    Check.due("robot(0)", x.robot(0), NOT);
    Check.due("order(0, 0, 0, 0)", x.order(0, 0, 0, 0), NOT);
    Check.due("cancel(0)", x.cancel(0), BAD);
    Check.due("tick(1)", x.tick(1), NOT);
    Check.due("settle(1)", x.settle(1), NOT);
    Check.due("robotOf(0, 0)", x.robotOf(0, 0), NONE);
    Check.due("ahead(0, 0)", x.ahead(0, 0), NONE);
    Check.due("was(0, 0)", x.was(0, 0), NONE);
    Check.due("task(0, 0)", x.task(0, 0), NONE);
    Check.due("orderOf(0, 0)", x.orderOf(0, 0), NONE);
    Check.due("place() again", x.place(), NONE);
    Check.due("read()", x.read(), SHAPE);
    Check.due("place() of no text", x.place(), 0);
  }

  private static void atMost90Characters() {
    Check.sentence("THE TEXT has at most 90 characters");
    Check.due("89 and 1", withLength(89).type('.'), 90);
    Check.due("89 and 2", withLength(89).type('.' | '.' << 8), FULL);
    Check.due("90 and 0", withLength(90).type(0), 90);
    Check.due("90 and 1", withLength(90).type('.'), FULL);
    Check.due("82 and 8", withLength(82).type(-1L), 90);
    Check.due("83 and 8", withLength(83).type(-1L), FULL);
    Check.due("90 and 8", withLength(90).type(-1L), FULL);
    Check.due("90 and 0, seven bytes behind it", withLength(90).type(-256L), 90);
  }

  private static void upToEightMore() {
    Check.sentence("Up to eight characters more: how many the text has.");
    for (int n = 0; n <= 8; n++) {
      Check.due(n + " more", new FleetController().type(Check.packed("........", 8 - n)), n);
      Check.due(n + " more behind 5", withLength(5).type(Check.packed("........", 8 - n)), 5 + n);
    }
    Check.due("the greatest w", new FleetController().type(Long.MAX_VALUE), 8);
    Check.due("the least w", new FleetController().type(Long.MIN_VALUE), 0);
    Check.due("w = -1", new FleetController().type(-1L), 8);
  }

  private static void upToTheFirstZero() {
    Check.sentence("the bytes of w, up to the first that is 0");
    for (int zero = 0; zero < 8; zero++) {
      long w = -1L & ~(255L << (8 * zero));
      Check.due("zero byte " + zero, new FleetController().type(w), zero);
      Check.due("two zero bytes from " + zero, new FleetController().type(w & ~(255L << 56)), Math.min(zero, 7));
    }
  }

  private static void lowestFirst() {
    Check.sentence("the bytes of w, the lowest first");
    for (int at = 0; at < 8; at++) {
      FleetController x = new FleetController();
      x.type(Check.packed("........", 0) & ~(255L << (8 * at)) | (long) 'x' << (8 * at));
      Check.due("x in byte " + at, x.read(), SIGN);
      Check.due("its place", x.place(), at);
    }
    FleetController x = withLength(8);
    x.type(Check.packed(".x......", 0));
    x.read();
    Check.due("behind what was typed before", x.place(), 9);
  }

  private static void fullAndNoneComes() {
    Check.sentence("FULL, and none comes: it would have more than 90.");
    for (int more = 4; more <= 8; more++) {
      long w = Check.packed("........", 8 - more);
      Check.doesNothing(more + " behind 87", Check.withText(MOST), x -> x.type(w), FULL);
    }
    FleetController x = Check.withText(MOST);
    Check.due("four behind 87", x.type(Check.packed("....", 0)), FULL);
    Check.due("read() of the 87", x.read(), 80);
    Check.due("three behind 87", x.type(Check.packed("...", 0)), 90);
    Check.due("erase()", x.erase(), 90);
    Check.due("none of them comes later", x.type(0), 0);
  }

  private static void howManyItHad() {
    Check.sentence("The text is empty: how many characters it had.");
    int[] lengths = {0, 1, 8, 89, 90};
    for (int length : lengths) {
      FleetController x = withLength(length);
      Check.due("erase() of " + length, x.erase(), length);
      Check.due("erase() again", x.erase(), 0);
      Check.due("type(0)", x.type(0), 0);
      Check.due("read() of none", x.read(), SHAPE);
      Check.due("its place", x.place(), 0);
      Check.due("room for eight again", x.type(-1L), 8);
    }
    FleetController x = Check.withMap(COMB);
    x.erase();
    Check.due("the map is still there", x.count(0), 15);
    Check.due("its cell 14", x.cell(14), 3);
    Check.due("a robot can be put", x.robot(10), 0);
  }

  private static void oneToEightLines() {
    Check.sentence("LINES (1 to 8)");
    for (int lines = 1; lines <= 8; lines++) {
      fault("../".repeat(lines - 1) + "..", KIND, 3 * lines - 1);
    }
    fault("../".repeat(8) + "..", SHAPE, 23);
    fault("", SHAPE, 0);
    fault("p.s", KIND, 3);
    fault("p.s.t", JOINED, 0);
    Check.withMap(".ps/.t.");
    Check.withMap("##/##/##/##/##/##/ps/.t");
  }

  private static void linesOfOneToTen() {
    Check.sentence("of one length, 1 to 10");
    for (int length = 1; length <= 10; length++) {
      String line = ".".repeat(length);
      fault(line, KIND, length);
      fault(line + "/" + line, KIND, 2 * length + 1);
    }
    fault(".".repeat(11), SHAPE, 10);
    fault(".".repeat(11) + "/" + ".".repeat(11), SHAPE, 10);
    fault("/", SHAPE, 0);
    fault("p/s/t", JOINED, 0);
    Check.withMap("p.s.t...../..........");
    Check.withMap("ps/.t");
  }

  private static void cellsLineByLine() {
    Check.sentence("CELLS are numbered from 0, line by line from the first one, each from the left.");
    FleetController x = Check.withMap("#s.t/p...");
    int[] kinds = {0, 2, 1, 3, 4, 1, 1, 1};
    for (int c = 0; c < kinds.length; c++) {
      Check.due("cell(" + c + ")", x.cell(c), kinds[c]);
    }
    FleetController most = Check.withMap(MOST);
    int[] cells = {0, 1, 9, 10, 19, 20, 39, 63, 64, 70, 71, 78, 79};
    int[] are = {4, 1, 1, 0, 1, 1, 0, 1, 1, 2, 0, 0, 3};
    for (int i = 0; i < cells.length; i++) {
      Check.due("cell(" + cells[i] + ") of the most", most.cell(cells[i]), are[i]);
    }
  }

  private static void movesEndAtTheEdge() {
    Check.sentence("A MOVE is to the cell above (1), ..., if there is one and it is no wall");
    FleetController x = Check.withMap("p.s/.../t..");
    Check.due("from a line's end to the next line's start", x.distance(2, 3), 3);
    Check.due("and back", x.distance(3, 2), 3);
    Check.due("from the first line to the last", x.distance(1, 7), 2);
    Check.due("from corner to corner", x.distance(0, 8), 4);
    Check.due("above", x.distance(4, 1), 1);
    Check.due("right", x.distance(4, 5), 1);
    Check.due("below", x.distance(4, 7), 1);
    Check.due("left", x.distance(4, 3), 1);
    Check.due("aslant", x.distance(4, 0), 2);
    FleetController walled = Check.withMap("p.s/.#./t..");
    Check.due("round a wall", walled.distance(1, 7), 4);
    Check.due("round a wall, across", walled.distance(3, 5), 4);
  }

  private static void distanceOfTwoCells() {
    Check.sentence("DISTANCE: the fewest moves (through places, too); NONE if there is no way, or one is a wall.");
    FleetController x = Check.withMap(MOST);
    Check.due("of a cell from itself", x.distance(0, 0), 0);
    Check.due("of the last cell from itself", x.distance(79, 79), 0);
    Check.due("all the way", x.distance(0, 70), 43);
    Check.due("all the way back", x.distance(70, 0), 43);
    Check.due("from s to t", x.distance(70, 79), 11);
    Check.due("a wall from itself", x.distance(10, 10), NONE);
    Check.due("from a wall", x.distance(10, 0), NONE);
    Check.due("to a wall", x.distance(0, 10), NONE);
    FleetController through = Check.withMap("p.s.t/.###./.....");
    Check.due("through a place", through.distance(0, 4), 4);
    FleetController apart = Check.withMap("ps#./.t#.");
    Check.due("no way", apart.distance(0, 3), NONE);
    Check.due("no way back", apart.distance(7, 5), NONE);
    Check.due("on the other side", apart.distance(3, 7), 1);
  }

  private static void charactersThatAreNoneOfThese() {
    Check.sentence("1 SIGN, a character that is none of these");
    for (int sign = 1; sign <= 255; sign++) {
      String alone = String.valueOf((char) sign);
      if (sign == '/') {
        fault(alone, SHAPE, 0);
      } else if ("#.stp".contains(alone)) {
        fault(alone, KIND, 1);
      } else {
        fault(alone, SIGN, 0);
      }
    }
    fault("p.s.t/....x", SIGN, 10);
    fault("p.s.tx", SIGN, 5);
    fault("x", SIGN, 0);
    fault("p.x.t/x....", SIGN, 2);
    fault(MOST.substring(0, 86) + "T", SIGN, 86);
  }

  private static void emptyLine() {
    Check.sentence("2 SHAPE, a line that is empty (at its end)");
    fault("", SHAPE, 0);
    fault("/", SHAPE, 0);
    fault("/ps/.t", SHAPE, 0);
    fault("ps//.t", SHAPE, 3);
    fault("ps/.t/", SHAPE, 6);
    fault("ps/.t//", SHAPE, 6);
    fault("p/", SHAPE, 2);
  }

  private static void shorterLine() {
    Check.sentence("2 SHAPE, a line that is shorter than the first one (at its end)");
    fault("ps./.t", SHAPE, 6);
    fault("ps./.t/...", SHAPE, 6);
    fault("ps./.t./..", SHAPE, 10);
    fault("ps./.t./../...", SHAPE, 10);
    fault("........../.........", SHAPE, 20);
    fault(MOST.substring(0, 86), SHAPE, 86);
    fault(MOST.substring(0, 78), SHAPE, 78);
  }

  private static void longerLine() {
    Check.sentence("2 SHAPE, a character of a line beyond the length of the first one (at it)");
    fault("ps/.t.", SHAPE, 5);
    fault("ps/.t./..", SHAPE, 5);
    fault("ps/.t..", SHAPE, 5);
    fault("ps/.t/...", SHAPE, 8);
    fault("./..", SHAPE, 3);
    fault("........./..........", SHAPE, 19);
  }

  private static void eleventhCharacter() {
    Check.sentence("2 SHAPE, an eleventh one (at it)");
    fault("..........", KIND, 10);
    fault("...........", SHAPE, 10);
    fault("............", SHAPE, 10);
    fault("........../..........", KIND, 21);
    fault("........../...........", SHAPE, 21);
    fault(MOST + ".", SHAPE, 87);
    fault(MOST + "...", SHAPE, 87);
  }

  private static void lineBehindTheEighth() {
    Check.sentence("2 SHAPE, a / behind the eighth line (at it)");
    String eight = "ps/.t/##/##/##/##/##/##";
    Check.withMap(eight);
    fault(eight + "/", SHAPE, 23);
    fault(eight + "/##", SHAPE, 23);
    fault(eight + "/#", SHAPE, 23);
    fault(eight + "//", SHAPE, 23);
    fault("ps/.t/##/##/##/##/##/", SHAPE, 21);
    fault("ps/.t/##/##/##/##/##/#/", SHAPE, 22);
    fault(MOST + "/", SHAPE, 87);
  }

  private static void lesserPlaceOfSignAndShape() {
    Check.sentence("of these two the one with the lesser place, at one place SIGN");
    fault("ps/.t.x", SHAPE, 5);
    fault("ps/.tx.", SIGN, 5);
    fault("ps/.x..", SIGN, 4);
    fault("..........x", SIGN, 10);
    fault("...........x", SHAPE, 10);
    fault(".........x.", SIGN, 9);
    fault("/x", SHAPE, 0);
    fault("x/", SIGN, 0);
    fault("ps//x", SHAPE, 3);
    fault("ps/x/", SIGN, 3);
    fault("ps/./x", SHAPE, 4);
    fault("ps/x", SIGN, 3);
    fault("../../../../../../../../x", SHAPE, 23);
    fault("../../../../../../../..x", SIGN, 23);
    fault(MOST + "x", SIGN, 87);
    fault(MOST + "./x", SHAPE, 87);
  }

  private static void noneOfAKind() {
    Check.sentence("3 NONE OF A KIND, there is no shelf, no station, or no parking cell (at the text's end)");
    fault("p.t/...", KIND, 7);
    fault("p.s/...", KIND, 7);
    fault("s.t/...", KIND, 7);
    fault("p../...", KIND, 7);
    fault("s../...", KIND, 7);
    fault("t../...", KIND, 7);
    fault("#", KIND, 1);
    fault(MOST.replace('s', '.'), KIND, 87);
    fault(MOST.replace('t', '.'), KIND, 87);
    fault(MOST.replace('p', '.'), KIND, 87);
    Check.withMap("p.t/..s");
  }

  private static void notJoined() {
    Check.sentence("4 JOINED, two places without a way through no other place (at the lesser one's character)");
    fault("p#s/..#/t..", JOINED, 0);
    fault("p.s.t", JOINED, 0);
    fault("p.s.t/.###.", JOINED, 0);
    Check.withMap("p.s.t/.###./.....");
    // The first two places are joined, and neither is with the third.
    fault("p.s/###/#t#", JOINED, 0);
    // Cell 0 is joined with all; 1 and 2 have but the way through it.
    fault("ps/t#", JOINED, 1);
    // Cell 1 is joined with 4 alone, which lies between it and the others.
    fault("#p#/sst/###", JOINED, 1);
    // The lesser one of the two stands in a later line, so that lines' ends lie before it.
    fault("###/###/pst", JOINED, 8);
    fault("##/ps/t#", JOINED, 4);
    // Two of one kind need a way, too.
    fault("p.s/..t/###/#p#", JOINED, 0);
    fault("s#s/.../t#p/###/#s#", JOINED, 0);
    // Floor needs no way to anything.
    Check.withMap("ps#./.t#.");
  }

  private static void firstOfTheFaults() {
    Check.sentence("FAULTS, the first of: 1 SIGN, 2 SHAPE, 3 NONE OF A KIND, 4 JOINED");
    fault("x", SIGN, 0);
    fault("p.x", SIGN, 2);
    fault("p#s#t/....x", SIGN, 10);
    fault("p#s#t/....", SHAPE, 10);
    fault("p#s/", SHAPE, 4);
    fault("p#s/###", KIND, 7);
    fault("p#s/##t", JOINED, 0);
  }

  private static void howManyCells() {
    Check.sentence("The map is READ from the text: how many cells it has");
    Check.due("the least map", Check.withText("ps/.t").read(), 4);
    Check.due("the greatest map", Check.withText(MOST).read(), 80);
    Check.due("count(0)", Check.withMap(MOST).count(0), 80);
  }

  private static void textStays() {
    Check.sentence("The map is READ from the text, which stays");
    FleetController x = Check.withMap("ps/.t");
    Check.due("type(0)", x.type(0), 5);
    Check.due("read() again", x.read(), 4);
    x.type(Check.packed("/..", 0));
    Check.due("with a line more", x.read(), 6);
    x.type('x');
    Check.due("with a wrong sign", x.read(), SIGN);
    Check.due("type(0) behind a fault", x.type(0), 9);
    Check.due("read() again behind a fault", x.read(), SIGN);
    Check.due("erase()", x.erase(), 9);
  }

  /** Two robots at work, one task of three pending; time 3. */
  private static FleetController busy() {
    FleetController x = Check.withMap(COMB);
    x.robot(0);
    x.robot(10);
    x.order(4, 2, 12, NONE);
    x.order(14, 12, NONE, NONE);
    x.tick(3);
    Check.due("pending in between", x.count(5), 1);
    return x;
  }

  private static void allIsGone() {
    Check.sentence("robots, orders and all that was are gone, the time is 0");
    FleetController x = busy();
    Check.due("read()", x.read(), 15);
    List<Integer> told = Check.told(x);
    Check.due("as a new object with that map", told.equals(Check.told(Check.withMap(COMB))) ? 1 : 0, 1);
    Check.due("was(0, 0)", x.was(0, 0), NONE);
    Check.due("ahead(0, 0)", x.ahead(0, 0), NONE);
    Check.due("task(0, 0)", x.task(0, 0), NONE);
    Check.due("orderOf(0, 0)", x.orderOf(0, 0), NONE);
    Check.due("cancel(0)", x.cancel(0), BAD);
    Check.due("tick(1)", x.tick(1), NOT);
    Check.due("a robot where one was", x.robot(10), 0);
    Check.due("orders from 0 on", x.order(14, 12, NONE, NONE), 0);
    // Nobody is in its way any more: 10 5 6 7 12 7 8 9 14.
    Check.due("settle(200)", x.settle(200), 8);
    Check.path(x, 0, 0, 10, 5, 6, 7, 12, 7, 8, 9, 14);
    Check.due("moves", x.count(10), 8);
    Check.due("ways", x.count(8), 1);
    Check.due("the longest", x.count(9), 8);
  }

  private static void anotherMapEachTime() {
    Check.sentence("The map is READ from the text; all that was is gone");
    String[] texts = {"p.s/.../t..", "p.s/.#./t..", "t.s/..#/p#.", "p.s/.../t..", "p.s/.#./t.."};
    int[] far = {2, 4, NONE, 2, 4};
    FleetController x = new FleetController();
    for (int i = 0; i < texts.length; i++) {
      x.erase();
      Check.typeAll(x, texts[i]);
      Check.due("read() of " + texts[i], x.read(), 9);
      Check.due("distance(1, 7) in " + texts[i], x.distance(1, 7), far[i]);
      int parking = x.cell(0) == 4 ? 0 : 6;
      Check.due("robot(" + parking + ")", x.robot(parking), 0);
      for (int what = 5; what <= 7; what++) {
        Check.due("robotOf(0, " + what + ") of the new one", x.robotOf(0, what), 0);
      }
      Check.due("order", x.order(6 - parking, 2, 2, NONE), 0);
      Check.due("all is brought", x.settle(200) > 0 && x.count(3) == 0 ? 1 : 0, 1);
      Check.due("two of them", x.robotOf(0, 6), 2);
      Check.due("ways", x.count(8), 2);
    }
  }

  private static void faultLeavesAll() {
    Check.sentence("SIGN, SHAPE, KIND, JOINED: a fault; then all is as it was.");
    String[] texts = {"p.s.t/..x..", "p.s.t/....", "p.s../.....", "p#s#t/.#.#."};
    int[] codes = {SIGN, SHAPE, KIND, JOINED};
    int[] places = {8, 10, 11, 0};
    for (int i = 0; i < texts.length; i++) {
      FleetController x = busy();
      x.erase();
      Check.typeAll(x, texts[i]);
      List<Integer> before = Check.told(x);
      Check.due("read() of " + texts[i], x.read(), codes[i]);
      Check.due("its place", x.place(), places[i]);
      Check.due(texts[i] + " leaves all as it was", Check.told(x).equals(before) ? 1 : 0, 1);
      // Robot 0 brings its second task from 4 by 12 to 4, in eight ticks from 8 on.
      Check.due("all goes on by the old map", x.settle(200), 16 - 3);
    }
  }

  private static void faultWithoutAMap() {
    Check.sentence("SIGN, SHAPE, KIND, JOINED: a fault; then all is as it was.");
    String[] texts = {"p.s.t/..x..", "p.s.t/....", "p.s../.....", "p#s#t/.#.#."};
    for (String text : texts) {
      FleetController x = Check.withText(text);
      x.read();
      Check.due("count(0)", x.count(0), 0);
      Check.due("cell(0)", x.cell(0), NONE);
      Check.due("distance(0, 0)", x.distance(0, 0), BAD);
      Check.due("robot(0)", x.robot(0), NOT);
      Check.due("order(4, 2, -1, -1)", x.order(4, 2, NONE, NONE), NOT);
    }
  }

  private static void placeOfTheLatestRead() {
    Check.sentence("The place of the fault of the latest read(); NONE if it had none, or there was none.");
    FleetController x = new FleetController();
    Check.due("no read()", x.place(), NONE);
    Check.typeAll(x, "ps/.x");
    Check.due("typed only", x.place(), NONE);
    x.read();
    Check.due("SIGN", x.place(), 4);
    x.erase();
    Check.due("the text is empty, the place stays", x.place(), 4);
    Check.typeAll(x, "ps/.t");
    Check.due("another text, the place stays", x.place(), 4);
    x.read();
    Check.due("no fault", x.place(), NONE);
    x.type('.');
    Check.due("typed more", x.place(), NONE);
    x.read();
    Check.due("SHAPE", x.place(), 5);
    x.type('x');
    x.read();
    Check.due("still SHAPE", x.place(), 5);
    x.robot(0);
    x.tick(1);
    Check.due("other calls leave it", x.place(), 5);
  }

  private static void noSuchCell() {
    Check.sentence("What a cell is; NONE: there is no such cell, or no map.");
    FleetController x = Check.withMap("ps/.t");
    int[] none = {-1, 4, 5, 79, 80, Integer.MAX_VALUE, Integer.MIN_VALUE};
    for (int c : none) {
      Check.due("cell(" + c + ")", x.cell(c), NONE);
      Check.due("cell(" + c + ") without a map", new FleetController().cell(c), NONE);
    }
    Check.due("cell(0)", x.cell(0), 4);
    Check.due("cell(3)", x.cell(3), 3);
    FleetController most = Check.withMap(MOST);
    Check.due("cell(79)", most.cell(79), 3);
    Check.due("cell(80)", most.cell(80), NONE);
    most.erase();
    Check.typeAll(most, "ps/.t");
    most.read();
    Check.due("cell(4) behind a greater map", most.cell(4), NONE);
    Check.due("cell(79) behind a greater map", most.cell(79), NONE);
  }

  private static void distanceOfNoSuchCell() {
    Check.sentence("DISTANCE of two cells. BAD: there is no such cell, or no map.");
    FleetController x = Check.withMap("ps#/.t#");
    int[] none = {-1, 6, 79, 80, Integer.MAX_VALUE, Integer.MIN_VALUE};
    for (int c : none) {
      Check.due("distance(0, " + c + ")", x.distance(0, c), BAD);
      Check.due("distance(" + c + ", 0)", x.distance(c, 0), BAD);
      Check.due("distance(" + c + ", " + c + ")", x.distance(c, c), BAD);
      Check.due("a wall and " + c, x.distance(2, c), BAD);
      Check.due(c + " and a wall", x.distance(c, 2), BAD);
    }
    Check.due("the last cell", x.distance(5, 0), NONE);
    Check.due("the first cell and the last but one", x.distance(0, 4), 2);
    Check.due("without a map", new FleetController().distance(0, 0), BAD);
  }

  private static void the512thCall() {
    Check.sentence("An object is used for at most 512 calls after it has been made");
    FleetController x = new FleetController();
    x.type(Check.packed("ps/.t", 0));
    x.read();
    x.robot(0);
    for (int i = 4; i <= 511; i++) {
      Check.due("call " + i, x.distance(0, 3), 2);
    }
    Check.due("call 512", x.tick(200), 200);
  }
}
