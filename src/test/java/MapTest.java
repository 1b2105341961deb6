/** Promises 1 to 7: a new object, the text, the map and its distances. */
public final class MapTest {
  private static final String SMALL = "...../p.s.t/.....";

  public static void main(String[] args) {
    newObject();
    typing();
    erasing();
    signsAndShapes();
    kindsMissing();
    placesApart();
    faultyReadLeavesAll();
    goodReadClearsAll();
    cells();
    distances();
    Check.end();
  }

  private static void newObject() {
    FleetController x = new FleetController();
    for (int what = 0; what <= 10; what++) {
      Check.due("new: count(" + what + ")", x.count(what), 0);
    }
    Check.due("new: place()", x.place(), FleetController.NONE);
    Check.due("new: cell(0)", x.cell(0), FleetController.NONE);
    Check.due("new: erase()", x.erase(), 0);
    Check.due("new: robot(0)", x.robot(0), FleetController.NOT);
    Check.due("new: order(0, 0, -1, -1)", x.order(0, 0, -1, -1), FleetController.NOT);
    Check.due("new: tick(1)", x.tick(1), FleetController.NOT);
    Check.due("new: settle(1)", x.settle(1), FleetController.NOT);
    Check.due("new: cancel(0)", x.cancel(0), FleetController.BAD);
  }

  private static void typing() {
    FleetController x = new FleetController();
    Check.due("type(0)", x.type(0), 0);
    Check.due("type of one", x.type('.'), 1);
    Check.due("type up to the first 0", x.type('.' | ('.' << 16)), 2);
    Check.due("type from a 0 on", x.type((long) '.' << 8), 2);
    Check.due("type of eight", x.type(Check.packed("......xy", 0)), 10);
    Check.due("lowest byte first: read()", x.read(), FleetController.SIGN);
    Check.due("lowest byte first: place()", x.place(), 8);

    FleetController full = new FleetController();
    for (int i = 1; i <= 11; i++) {
      Check.due("type of eight, " + i, full.type(-1L), 8 * i);
    }
    Check.due("type of three beyond 90", full.type(0x010101L), FleetController.FULL);
    Check.due("type of two up to 90", full.type(0x0101L), 90);
    Check.due("type of none at 90", full.type(0L), 90);
    Check.due("type of none at 90, a byte behind the 0", full.type(0x100L), 90);
    Check.due("type of one at 90", full.type(1L), FleetController.FULL);
    Check.due("erase at 90", full.erase(), 90);
  }

  private static void erasing() {
    FleetController x = Check.withMap(SMALL);
    Check.due("erase()", x.erase(), 17);
    Check.due("erase() again", x.erase(), 0);
    Check.due("the map stays: count(0)", x.count(0), 15);
    Check.due("place stays", x.place(), FleetController.NONE);
    Check.due("type behind erase", x.type('s'), 1);
    Check.due("read of the new text", x.read(), FleetController.KIND);
    Check.due("erase()", x.erase(), 1);
    Check.due("place stays behind erase", x.place(), 1);
  }

  private static void fault(String text, int code, int place) {
    FleetController x = Check.withText(text);
    Check.due("read() of '" + text + "'", x.read(), code);
    Check.due("place() in '" + text + "'", x.place(), place);
    Check.due("the text stays: '" + text + "'", x.type(0), text.length());
  }

  private static void signsAndShapes() {
    int sign = FleetController.SIGN;
    int shape = FleetController.SHAPE;
    fault("", shape, 0);
    fault("/", shape, 0);
    fault("..S", sign, 2);
    fault(" ", sign, 0);
    fault("\u00ff", sign, 0);
    fault("P/", sign, 0);
    fault("p.s.t/", shape, 6);
    fault("p.s.t//.....", shape, 6);
    fault("p.s.t/....", shape, 10);
    fault("p.s.t/..../.....", shape, 10);
    fault("p.s.t/......", shape, 11);
    fault("p.s.t/.....x", sign, 11);
    fault("p.s.t/..../x", shape, 10);
    fault("p.s.t/x.../.", sign, 6);
    fault("...........", shape, 10);
    fault("..........x", sign, 10);
    fault("..........", FleetController.KIND, 10);
    fault("./././././././.", FleetController.KIND, 15);
    fault("./././././././/", shape, 14);
    fault("./././././././.x", sign, 15);
    fault("./././././././..", shape, 15);
    fault("././././././././/", shape, 15);
    fault("../../../../../../../../..", shape, 23);
    fault("../../../../../../../.", shape, 22);
    fault("../../../../../../../..", FleetController.KIND, 23);
  }

  private static void kindsMissing() {
    int kind = FleetController.KIND;
    fault(".", kind, 1);
    fault("#", kind, 1);
    fault(".p./.t.", kind, 7);
    fault(".p./.s.", kind, 7);
    fault(".s./.t.", kind, 7);
    fault("s#t/###", kind, 7);
    Check.withMap("s.t/.p.");
  }

  private static void placesApart() {
    int joined = FleetController.JOINED;
    fault("pst", joined, 0);
    fault("p#s/..#/t..", joined, 0);
    fault("p.s/###/..t", joined, 0);
    fault("#p#/.s./.t.", joined, 1);
    fault("##p.s/#####/..t..", joined, 2);
    // In the second line a / lies before the cell.
    fault("###/pst/###", joined, 4);
    // The first place has a way to all others; the second and third have one through it alone.
    fault("ps/t#", joined, 1);
    fault("#ps/#t#", joined, 2);
    fault("##/ps/t#", joined, 4);
    fault("p.t/.##/.s#/###", joined, 2);
    // Places that are neighbours need no floor.
    Check.withMap("ps/.t");
    Check.withMap("ps/t.");
    Check.withMap(".p./.s./.t./###");
  }

  private static void faultyReadLeavesAll() {
    FleetController x = Check.withMap(SMALL);
    x.robot(5);
    x.order(9, 7, 7, -1);
    x.tick(3);
    x.erase();
    Check.typeAll(x, "p.s");
    Check.due("faulty read()", x.read(), FleetController.KIND);
    Check.due("faulty: place()", x.place(), 3);
    Check.due("faulty: count(0)", x.count(0), 15);
    Check.due("faulty: cell(9)", x.cell(9), 3);
    Check.due("faulty: distance(0, 14)", x.distance(0, 14), 6);
    Check.due("faulty: count(6)", x.count(6), 3);
    Check.due("faulty: robotOf(0, 0)", x.robotOf(0, 0), 8);
    Check.due("faulty: task(0, 3)", x.task(0, 3), 2);
    Check.due("faulty: tick(1)", x.tick(1), 4);
    Check.due("faulty: task(0, 3)", x.task(0, 3), 3);
  }

  private static void goodReadClearsAll() {
    FleetController x = Check.withMap(SMALL);
    x.robot(5);
    x.order(9, 7, 7, -1);
    x.tick(3);
    Check.due("read() again", x.read(), 15);
    Check.due("count(0)", x.count(0), 15);
    for (int what = 1; what <= 10; what++) {
      Check.due("behind read: count(" + what + ")", x.count(what), 0);
    }
    Check.due("behind read: robotOf(0, 0)", x.robotOf(0, 0), FleetController.NONE);
    Check.due("behind read: task(0, 0)", x.task(0, 0), FleetController.NONE);
    Check.due("behind read: orderOf(0, 0)", x.orderOf(0, 0), FleetController.NONE);
    Check.due("behind read: was(0, 0)", x.was(0, 0), FleetController.NONE);
    Check.due("behind read: cancel(0)", x.cancel(0), FleetController.BAD);
    Check.due("behind read: tick(1)", x.tick(1), FleetController.NOT);
    Check.due("behind read: robot(5)", x.robot(5), 0);
    for (int what = 5; what <= 7; what++) {
      Check.due("behind read: robotOf(0, " + what + ")", x.robotOf(0, what), 0);
    }
    Check.due("behind read: order()", x.order(9, 7, -1, -1), 0);
    Check.due("behind read: settle(9)", x.settle(9), 4);
    Check.path(x, 0, 0, 5, 6, 7, 8, 9);
  }

  private static void cells() {
    FleetController x = Check.withMap("#s.t/.p.#");
    int[] kinds = {0, 2, 1, 3, 1, 4, 1, 0};
    for (int c = 0; c < kinds.length; c++) {
      Check.due("cell(" + c + ")", x.cell(c), kinds[c]);
    }
    Check.due("cell(8)", x.cell(8), FleetController.NONE);
    Check.due("cell(-1)", x.cell(-1), FleetController.NONE);
    Check.due("cell(least)", x.cell(Integer.MIN_VALUE), FleetController.NONE);
    FleetController most = Check.withMap(mostCells());
    Check.due("cell(79)", most.cell(79), 4);
    Check.due("cell(80)", most.cell(80), FleetController.NONE);
  }

  private static String mostCells() {
    StringBuilder text = new StringBuilder();
    for (int line = 0; line < 8; line++) {
      text.append(line == 0 ? "s........." : line == 7 ? "/t........p" : "/..........");
    }
    return text.toString();
  }

  private static void distances() {
    FleetController x = Check.withMap(SMALL);
    Check.due("through a place: distance(5, 9)", x.distance(5, 9), 4);
    Check.due("distance(0, 14)", x.distance(0, 14), 6);
    Check.due("distance(7, 7)", x.distance(7, 7), 0);
    // The end of one line is no neighbour of the start of the next.
    Check.due("distance(4, 5)", x.distance(4, 5), 5);
    Check.due("distance(5, 4)", x.distance(5, 4), 5);
    Check.due("distance(0, 15)", x.distance(0, 15), FleetController.BAD);
    Check.due("distance(-1, 0)", x.distance(-1, 0), FleetController.BAD);
    FleetController walled = Check.withMap("s.t#./.p.#./...##");
    Check.due("distance(0, 12)", walled.distance(0, 12), 4);
    Check.due("no way", walled.distance(0, 4), FleetController.NONE);
    Check.due("no way back", walled.distance(4, 0), FleetController.NONE);
    Check.due("behind the wall", walled.distance(4, 9), 1);
    Check.due("to a wall", walled.distance(0, 3), FleetController.NONE);
    Check.due("from a wall", walled.distance(3, 0), FleetController.NONE);
    Check.due("a wall from itself", walled.distance(3, 3), FleetController.NONE);
    Check.due("a wall and no cell", walled.distance(3, 15), FleetController.BAD);
    FleetController most = Check.withMap(mostCells());
    Check.due("distance(0, 79)", most.distance(0, 79), 16);
    Check.due("distance(79, 0)", most.distance(79, 0), 16);
    Check.due("distance(63, 64)", most.distance(63, 64), 1);
    Check.due("distance(60, 64)", most.distance(60, 64), 4);
  }
}
