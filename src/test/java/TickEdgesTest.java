/** Term 3 and promises 11 to 15 and 18: a test for each sentence that names an edge. */
public final class TickEdgesTest {
  private static final int NONE = FleetController.NONE;
  private static final int BAD = FleetController.BAD;
  private static final int FULL = FleetController.FULL;
  private static final int NOT = FleetController.NOT;
  private static final int LEAST = Integer.MIN_VALUE;
  private static final int MOST = Integer.MAX_VALUE;
  // p0 s2 t4 in the first line, p10 s12 t14 in the third, 5 .. 9 the floor between.
  private static final String COMB = "p#s#t/...../p#s#t";

  public static void main(String[] args) {
    timeIsZeroAtFirst();
    pathAtFirst();
    byTheirNumbers();
    freeByT();
    notFree();
    endsOfOthers();
    endGivenUpInTheSameTick();
    ownEndIsNoOthers();
    leastDistance();
    leastNumber();
    otherwiseItStays();
    pickedForTheFirstTime();
    broughtWhereThePathEnds();
    notWhereAnotherIs();
    notWhereAnothersEndIs();
    whereAnotherLeaves();
    noChangeOfPlaces();
    noOtherComesToItsLastCell();
    comesThroughJustBeforeItsEnd();
    waitsUntilTheWayIsFree();
    waysOfTheLastCells();
    longWay();
    lesserMoveWhereTheyDiffer();
    monitorCountsNothing();
    oneTo200Ticks();
    ticksWithoutARobot();
    timeOfAtMost4000();
    firstOfTheTicksRefusals();
    wayBeyondTheLastTime();
    ticksUntilNoneIsOpen();
    settleOneTo200();
    settleUpTo4000();
    settleWithoutARobot();
    whatARobotIs();
    noSuchRobot();
    pathAhead();
    aheadOfNone();
    wasFromZeroToNow();
    counts();
    countOfAnotherWhat();
    Check.end();
  }

  private static FleetController withRobots(String map, int... cells) {
    FleetController x = Check.withMap(map);
    for (int i = 0; i < cells.length; i++) {
      Check.due("robot(" + cells[i] + ")", x.robot(cells[i]), i);
    }
    return x;
  }

  /** One robot that rests in 0 at some time. */
  private static FleetController at(int time) {
    FleetController x = withRobots(COMB, 0);
    for (int now = 0; now < time; now = x.count(6)) {
      x.tick(Math.min(200, time - now));
    }
    Check.due("time", x.count(6), time);
    return x;
  }

  /** Two robots at work, one task of three pending; time 3. */
  private static FleetController busy() {
    FleetController x = withRobots(COMB, 0, 10);
    x.order(4, 2, 12, NONE);
    x.order(14, 12, NONE, NONE);
    x.tick(3);
    return x;
  }

  private static void timeIsZeroAtFirst() {
    Check.sentence("THE TIME is 0 at first.");
    FleetController x = withRobots(COMB, 0);
    x.order(4, 2, NONE, NONE);
    Check.due("count(6)", x.count(6), 0);
    Check.due("tick(1)", x.tick(1), 1);
    Check.due("count(6) behind a tick", x.count(6), 1);
  }

  private static void pathAtFirst() {
    Check.sentence("At first each robot's path is the cell in which it was put.");
    FleetController x = withRobots(COMB, 10, 0);
    x.order(4, 2, NONE, NONE);
    Check.plan(x, 0, 10, 10, 10);
    Check.plan(x, 1, 0, 0, 0);
    Check.due("its end", x.robotOf(0, 3), 10);
    Check.due("has ended", x.robotOf(0, 4), 0);
    Check.due("was(0, 0)", x.was(0, 0), 10);
  }

  private static void byTheirNumbers() {
    Check.sentence("Robots by their numbers: each that is FREE looks for work.");
    // Shelf 5 is five moves from 0 and three from 10.
    String map = "p....s./...p..t";
    FleetController x = withRobots(map, 0, 10);
    x.order(13, 5, NONE, NONE);
    x.tick(1);
    Check.due("robot 0 takes it", x.robotOf(0, 1), 0);
    Check.due("robot 1 has none", x.robotOf(1, 1), NONE);
    FleetController y = withRobots(map, 10, 0);
    y.order(13, 5, NONE, NONE);
    y.tick(1);
    Check.due("it is the number that tells", y.robotOf(0, 1), 0);
    Check.due("robot 1 in 0 has none", y.robotOf(1, 1), NONE);
  }

  private static void freeByT() {
    Check.sentence("FREE (its path has ended by t)");
    FleetController x = withRobots(COMB, 0);
    x.order(4, 2, 2, NONE);
    x.tick(8);
    Check.due("brought at 8", x.task(0, 8), 8);
    Check.due("nothing taken yet", x.task(1, 3), 0);
    Check.due("free", x.robotOf(0, 1), NONE);
    x.tick(1);
    Check.due("taken by the tick from 8 on", x.task(1, 6), 8);
    Check.due("and gone on", x.robotOf(0, 0), 9);
  }

  private static void notFree() {
    Check.sentence("each that is FREE looks for work (no other does)");
    FleetController x = withRobots("p....s./...p..t", 0, 10);
    x.order(13, 5, NONE, NONE);
    x.tick(2);
    x.order(13, 5, NONE, NONE);
    x.tick(5);
    Check.path(x, 0, 0, 0, 1, 2, 3, 4, 5, 6, 13);
    Check.due("the second is pending to the end of the first", x.task(1, 3), 0);
    x.tick(4);
    Check.path(x, 0, 7, 13, 6, 5, 6, 13);
    Check.due("taken", x.task(1, 6), 7);
    Check.due("picked", x.task(1, 7), 9);
    Check.due("brought", x.task(1, 8), 11);
    Check.due("robot 1 never goes", x.robotOf(1, 5), 0);
  }

  private static void endsOfOthers() {
    Check.sentence("those are FIT whose shelf and whose station are no other robot's end");
    FleetController x = withRobots(COMB, 0, 10);
    x.order(4, 2, 12, NONE);
    x.tick(1);
    Check.due("4 is robot 0's end while it is far", x.robotOf(1, 1), NONE);
    x.order(14, 12, NONE, NONE);
    x.tick(1);
    Check.due("14 is nobody's", x.robotOf(1, 1), 2);
    Check.due("taken", x.task(2, 6), 1);
    x.tick(1);
    Check.due("task 1 waits", x.task(1, 3), 0);
  }

  private static void endGivenUpInTheSameTick() {
    Check.sentence("Robots by their numbers; no other robot's end");
    // p0 s2 t4 t6 t8 in the first line, 9 .. 17 the floor, p18 s20 in the third.
    FleetController x = withRobots("p#s#t#t#t/........./p#s######", 0, 18);
    x.order(4, 2, NONE, NONE);
    x.order(6, 20, NONE, NONE);
    Check.due("robot 1 one tick behind robot 0", x.settle(200), 11);
    Check.path(x, 0, 0, 0, 9, 10, 11, 2, 11, 12, 13, 4, 4, 4, 4);
    Check.path(x, 1, 0, 18, 18, 9, 10, 11, 20, 11, 12, 13, 14, 15, 6);
    x.order(8, 2, NONE, NONE);
    x.order(4, 20, NONE, NONE);
    x.tick(1);
    Check.due("robot 0 leaves 4 for 8", x.robotOf(0, 3), 8);
    Check.due("so robot 1 may take a task to 4 at once", x.robotOf(1, 1), 3);
    Check.due("taken", x.task(3, 6), 11);
  }

  private static void ownEndIsNoOthers() {
    Check.sentence("no OTHER robot's end; it goes OFF with none that is fit alone");
    FleetController x = withRobots(COMB, 0);
    x.order(4, 2, 2, 2);
    Check.due("all three by one robot", x.settle(200), 24);
    Check.due("brought", x.robotOf(0, 6), 3);
    Check.due("off", x.robotOf(0, 7), 0);
    Check.due("ways", x.count(8), 3);
  }

  private static void leastDistance() {
    Check.sentence("it takes the one whose shelf has the least distance from its cell");
    // 4 is four moves from 0 through the cell of robot 1, six round it; 11 is five.
    FleetController x = withRobots("p.p.s.t/....s../.......", 0, 2);
    x.order(6, 11, 4, NONE);
    x.tick(1);
    Check.due("the distance counts, not the way", x.robotOf(0, 1), 1);
    // Four and five moves off.
    FleetController y = withRobots("p...s/....s/t....", 0);
    y.order(10, 9, 4, NONE);
    y.tick(1);
    Check.due("the nearer one, though told later", y.robotOf(0, 1), 1);
  }

  private static void leastNumber() {
    Check.sentence("of several the one with the least number");
    FleetController x = withRobots("s.p.s/...../..t..", 2);
    x.order(12, 4, 0, 4);
    x.tick(1);
    Check.due("4 was told first", x.robotOf(0, 1), 0);
    FleetController y = withRobots("s.p.s/...../..t..", 2);
    y.order(12, 0, 4, 0);
    y.cancel(0);
    y.order(12, 4, 0, 4);
    y.tick(1);
    Check.due("of the pending ones", y.robotOf(0, 1), 3);
  }

  private static void otherwiseItStays() {
    Check.sentence("Otherwise it stays.");
    FleetController x = withRobots(COMB, 0, 10);
    Check.due("without an order", x.tick(5), 5);
    Check.path(x, 0, 0, 0, 0, 0, 0, 0, 0);
    x.order(4, 2, NONE, NONE);
    x.tick(8);
    x.tick(3);
    Check.due("in a station for which nothing is pending", x.robotOf(0, 0), 4);
    x.order(14, 12, 12, NONE);
    x.tick(1);
    Check.due("robot 0 takes one", x.robotOf(0, 1), 1);
    Check.due("robot 1 stays in its parking cell", x.robotOf(1, 0), 10);
    Check.due("no way for a stay", x.count(8), 2);
    Check.due("no moves", x.robotOf(1, 5), 0);
    Check.due("off", x.robotOf(0, 7) + x.robotOf(1, 7), 0);
  }

  // Robot 0: 0 1 2 7 8 9 8 7 2 1, so nobody may end in 2 before 9, and from 4 to 7 the ways between 9
  // and 8 are its own. Robot 1 must be in 9 by 4, goes on into 14 and comes through 9 again at 6.
  private static void pickedForTheFirstTime() {
    Check.sentence("in its task's shelf at that time for the first time since it took it");
    FleetController x = withRobots("pttp#/....s/##.#.", 0, 3);
    x.order(1, 9, NONE, NONE);
    x.tick(1);
    x.order(2, 9, NONE, NONE);
    x.tick(3);
    Check.due("picked at 4", x.task(1, 3), 2);
    Check.due("picked at 4", x.task(1, 7), 4);
    x.tick(2);
    Check.due("again in the shelf", x.robotOf(1, 0), 9);
    Check.due("still picked at 4", x.task(1, 7), 4);
    x.tick(3);
    Check.due("still picked at 4", x.task(1, 7), 4);
    Check.due("brought", x.task(1, 8), 9);
    Check.path(x, 0, 0, 0, 1, 2, 7, 8, 9, 8, 7, 2, 1);
    Check.path(x, 1, 0, 3, 3, 3, 8, 9, 14, 9, 8, 3, 2);
    Check.due("robot 0 picked", x.task(0, 7), 5);
    Check.due("robot 0 brought", x.task(0, 8), 9);
  }

  private static void broughtWhereThePathEnds() {
    Check.sentence("each whose path ends then with a picked task has BROUGHT it, and is free again");
    FleetController x = withRobots("p.t.s/.....", 0);
    x.order(2, 4, NONE, NONE);
    x.tick(2);
    Check.due("in the station without its task", x.robotOf(0, 0), 2);
    Check.due("that is not brought", x.task(0, 3), 1);
    x.tick(3);
    Check.due("one tick before", x.task(0, 3), 2);
    Check.due("it has its task", x.robotOf(0, 1), 0);
    x.tick(1);
    Check.due("brought", x.task(0, 3), 3);
    Check.due("at 6", x.task(0, 8), 6);
    Check.due("it has none", x.robotOf(0, 1), NONE);
    Check.due("one brought", x.robotOf(0, 6), 1);
    Check.path(x, 0, 0, 0, 1, 2, 3, 4, 3, 2);
  }

  // Both would be in 7 at 3.
  private static void notWhereAnotherIs() {
    Check.sentence("at no time it is in a cell in which another robot is by its path at that time");
    FleetController x = withRobots("p#s#t/...../t#s#p", 0, 14);
    x.order(4, 2, NONE, NONE);
    x.order(10, 12, NONE, NONE);
    x.tick(1);
    Check.plan(x, 0, 5, 6, 7, 2, 7, 8, 9, 4);
    Check.plan(x, 1, 14, 9, 8, 7, 12, 7, 6, 5, 10, 10);
    x.tick(8);
    Check.path(x, 0, 0, 0, 5, 6, 7, 2, 7, 8, 9, 4, 4);
    Check.path(x, 1, 0, 14, 14, 9, 8, 7, 12, 7, 6, 5, 10);
    Check.due("count(7)", x.count(7), 0);
  }

  private static void notWhereAnothersEndIs() {
    Check.sentence("at no time it is in a cell in which another robot is by its end at that time");
    FleetController x = withRobots("p.p.s.t/.......", 0, 2);
    x.order(6, 4, NONE, NONE);
    x.tick(8);
    Check.path(x, 0, 0, 0, 1, 8, 9, 10, 3, 4, 5, 6);
    Check.due("brought", x.task(0, 8), 8);
    FleetController alone = withRobots("p.p.s.t/.......", 0);
    alone.order(6, 4, NONE, NONE);
    alone.tick(6);
    Check.path(alone, 0, 0, 0, 1, 2, 3, 4, 5, 6);
  }

  // In each tick from 1 on robot 1 goes to the cell that robot 0 leaves.
  private static void whereAnotherLeaves() {
    Check.sentence("in a cell in which another robot is at THAT time (a cell that it leaves then is free)");
    FleetController x = withRobots(COMB, 0, 10);
    x.order(4, 2, NONE, NONE);
    x.order(14, 12, NONE, NONE);
    x.tick(9);
    Check.path(x, 0, 0, 0, 5, 6, 7, 2, 7, 8, 9, 4, 4);
    Check.path(x, 1, 0, 10, 10, 5, 6, 7, 12, 7, 8, 9, 14);
    Check.due("robot 0 brought", x.task(0, 8), 8);
    Check.due("robot 1 took", x.task(1, 6), 0);
    Check.due("robot 1 picked", x.task(1, 7), 5);
    Check.due("robot 1 brought", x.task(1, 8), 9);
    Check.due("count(7)", x.count(7), 0);
  }

  // Without a stay the two would change places between 8 and 9 in the tick from 5 on, with one stay
  // both would be in 9 at 6.
  private static void noChangeOfPlaces() {
    Check.sentence("it does not change places with another robot in a tick");
    FleetController x = withRobots("p#s##t/....../t##s#p", 0, 17);
    x.order(5, 2, NONE, NONE);
    x.order(12, 15, NONE, NONE);
    x.tick(11);
    Check.path(x, 0, 0, 0, 6, 7, 8, 2, 8, 9, 10, 11, 5, 5, 5);
    Check.path(x, 1, 0, 17, 17, 17, 11, 10, 9, 15, 9, 8, 7, 6, 12);
    Check.due("count(7)", x.count(7), 0);
    Check.due("count(9)", x.count(9), 11);
  }

  // Robot 0 is in 4 at 4; robot 1, that could be there at 3, comes at 5.
  private static void noOtherComesToItsLastCell() {
    Check.sentence("at the last time and all later ones no other robot's path comes to its last cell");
    FleetController x = withRobots("p...t.s.t/...ps..../.........", 0, 12);
    x.order(8, 6, NONE, NONE);
    x.tick(1);
    x.order(4, 13, NONE, NONE);
    x.tick(7);
    Check.path(x, 0, 0, 0, 1, 2, 3, 4, 5, 6, 7, 8);
    Check.path(x, 1, 0, 12, 12, 12, 12, 13, 4, 4, 4, 4);
    // Two moves need it; told at 3 it just comes when robot 0 has gone on.
    for (int told = 1; told <= 4; told++) {
      FleetController y = withRobots("p...t.s.t/...ps..../.........", 0, 12);
      y.order(8, 6, NONE, NONE);
      y.tick(told);
      y.order(4, 13, NONE, NONE);
      y.tick(4);
      Check.due("told at " + told, y.task(1, 8), Math.max(5, told + 2));
    }
  }

  // Robot 0 comes through 10 at 4 and ends in 11 at 5; robot 1 could be in 10 at 3, and comes at 5.
  private static void comesThroughJustBeforeItsEnd() {
    Check.sentence("at the last time and all later ones no other robot's path comes to its last cell");
    FleetController x = withRobots("....../p.s.tt/...ps./......", 6, 15);
    x.order(11, 8, NONE, NONE);
    x.tick(1);
    x.order(10, 16, NONE, NONE);
    x.tick(4);
    Check.path(x, 0, 0, 6, 7, 8, 9, 10, 11);
    Check.path(x, 1, 0, 15, 15, 15, 15, 16, 10);
    Check.due("brought", x.task(1, 8), 5);
  }

  // Robot 0 comes out of 13 into 4 at 8, so robot 1 can be in 13 at 8, not before.
  private static void waitsUntilTheWayIsFree() {
    Check.sentence("Of all such rows the shortest; of these the one with the lesser move (a stay is the least)");
    FleetController x = withRobots("p#s#t#t#p/.........", 0, 8);
    x.order(4, 2, NONE, NONE);
    x.order(6, 2, NONE, NONE);
    Check.due("settle(200)", x.settle(200), 17);
    Check.path(x, 0, 0, 0, 9, 10, 11, 2, 11, 12, 13, 4, 4);
    Check.path(x, 1, 0, 8, 8, 8, 8, 17, 16, 15, 14, 13, 12, 11, 2, 11, 12, 13, 14, 15, 6);
    Check.due("ticks of the longest", x.count(9), 17);
  }

  /** A map's lines at the lower edge of one with 80 cells, some columns from the left. */
  private static String lowered(String map, int columns) {
    String[] lines = map.split("/");
    StringBuilder text = new StringBuilder();
    for (int i = lines.length; i < 8; i++) {
      text.append("##########/");
    }
    for (int i = 0; i < lines.length; i++) {
      String line = "#".repeat(columns) + lines[i];
      text.append(i == 0 ? "" : "/").append(line).append("#".repeat(10 - line.length()));
    }
    return text.toString();
  }

  /** The numbers in the lowered map of the cells of a map of three lines. */
  private static int[] lowered(int width, int columns, int... cells) {
    int[] there = new int[cells.length];
    for (int i = 0; i < cells.length; i++) {
      there[i] = 50 + 10 * (cells[i] / width) + cells[i] % width + columns;
    }
    return there;
  }

  // The ways that were found by hand above, once more where the cells have numbers up to 79.
  private static void waysOfTheLastCells() {
    Check.sentence("LINES (1 to 8, of one length, 1 to 10): THE WAY of a robot in the last of 80 cells");
    for (int columns = 0; columns <= 5; columns++) {
      int[] p = lowered(5, columns, 0, 10, 2, 12, 4, 14);
      FleetController x = withRobots(lowered(COMB, columns), p[0], p[1]);
      x.order(p[4], p[2], NONE, NONE);
      x.order(p[5], p[3], NONE, NONE);
      x.tick(9);
      Check.path(x, 0, 0, lowered(5, columns, 0, 5, 6, 7, 2, 7, 8, 9, 4, 4));
      Check.path(x, 1, 0, lowered(5, columns, 10, 10, 5, 6, 7, 12, 7, 8, 9, 14));
    }
    for (int columns = 0; columns <= 4; columns++) {
      int[] p = lowered(6, columns, 0, 17, 2, 15, 5, 12);
      FleetController x = withRobots(lowered("p#s##t/....../t##s#p", columns), p[0], p[1]);
      x.order(p[4], p[2], NONE, NONE);
      x.order(p[5], p[3], NONE, NONE);
      x.tick(11);
      Check.path(x, 0, 0, lowered(6, columns, 0, 6, 7, 8, 2, 8, 9, 10, 11, 5, 5, 5));
      Check.path(x, 1, 0, lowered(6, columns, 17, 17, 17, 11, 10, 9, 15, 9, 8, 7, 6, 12));
    }
    for (int columns = 0; columns <= 5; columns++) {
      int[] p = lowered(5, columns, 0, 3, 9, 1, 2);
      FleetController x = withRobots(lowered("pttp#/....s/##.#.", columns), p[0], p[1]);
      x.order(p[3], p[2], NONE, NONE);
      x.tick(1);
      x.order(p[4], p[2], NONE, NONE);
      x.tick(8);
      Check.path(x, 0, 0, lowered(5, columns, 0, 1, 2, 7, 8, 9, 8, 7, 2, 1));
      Check.path(x, 1, 0, lowered(5, columns, 3, 3, 3, 8, 9, 14, 9, 8, 3, 2));
    }
    for (int columns = 0; columns <= 5; columns++) {
      int[] p = lowered(5, columns, 5, 7, 9);
      FleetController x = withRobots(lowered("...../p.s.t/.....", columns), p[0]);
      x.order(p[2], p[1], NONE, NONE);
      x.tick(4);
      Check.path(x, 0, 0, lowered(5, columns, 5, 6, 7, 8, 9));
    }
  }

  private static void longWay() {
    Check.sentence("THE WAY of a robot, all through 80 cells");
    FleetController x = withRobots("p........./#########./........../.#########/"
        + "........../#########./........../s########t", 0);
    x.order(79, 70, NONE, NONE);
    Check.due("settle(200)", x.settle(200), 54);
    Check.path(x, 0, 0, 0, 1, 2, 3, 4, 5, 6, 7, 8, 9, 19, 29, 28, 27, 26, 25, 24, 23, 22, 21, 20, 30);
    Check.path(x, 0, 22, 40, 41, 42, 43, 44, 45, 46, 47, 48, 49, 59, 69, 68, 67, 66, 65, 64, 63, 62, 61, 60, 70);
    Check.path(x, 0, 44, 60, 61, 62, 63, 64, 65, 66, 67, 68, 69, 79);
    Check.due("picked", x.task(0, 7), 43);
    Check.due("moves", x.robotOf(0, 5), 54);
    Check.due("the longest way", x.count(9), 54);
  }

  private static void lesserMoveWhereTheyDiffer() {
    Check.sentence("Of all such rows the shortest; of these the one with the lesser move where they first differ.");
    // Above, then right; from the shelf below alone.
    FleetController x = withRobots("..s/.../p.t", 6);
    x.order(8, 2, NONE, NONE);
    x.tick(6);
    Check.path(x, 0, 0, 6, 3, 0, 1, 2, 5, 8);
    // Below before left.
    FleetController y = withRobots("..p/.../s.t", 2);
    y.order(8, 6, NONE, NONE);
    y.tick(6);
    Check.path(y, 0, 0, 2, 5, 8, 7, 6, 7, 8);
    // Right before below.
    FleetController z = withRobots("p../.../t.s", 0);
    z.order(6, 8, NONE, NONE);
    z.tick(6);
    Check.path(z, 0, 0, 0, 1, 2, 5, 8, 7, 6);
    // Above before left.
    FleetController w = withRobots("s../.../t.p", 8);
    w.order(6, 0, NONE, NONE);
    w.tick(6);
    Check.path(w, 0, 0, 8, 5, 2, 1, 0, 3, 6);
  }

  private static void monitorCountsNothing() {
    Check.sentence("what THE MONITOR counted (by THE WAY there is nothing to count)");
    FleetController x = withRobots("p#p#p#s#t#/........../p#p#p#s#t#", 0, 2, 4, 20, 22, 24);
    for (int i = 0; i < 6; i++) {
      x.order(i % 2 == 0 ? 8 : 28, 6, 26, NONE);
    }
    int ticks = x.settle(200);
    Check.due("all is brought", x.count(3), 0);
    Check.due("in time", ticks > 30 && ticks < 200 ? 1 : 0, 1);
    Check.due("count(7)", x.count(7), 0);
  }

  private static void oneTo200Ticks() {
    Check.sentence("n ticks, 1 .. 200: the time then. BAD: another n. (With one of these nothing is done.)");
    Check.due("tick(1)", at(0).tick(1), 1);
    Check.due("tick(2)", at(0).tick(2), 2);
    Check.due("tick(199)", at(5).tick(199), 204);
    Check.due("tick(200)", at(5).tick(200), 205);
    int[] wrong = {0, -1, 201, 202, 4000, 4001, LEAST, MOST};
    for (int n : wrong) {
      Check.doesNothing("tick(" + n + ")", busy(), x -> x.tick(n), BAD);
    }
  }

  private static void ticksWithoutARobot() {
    Check.sentence("NOT: there is no robot");
    FleetController x = Check.withMap(COMB);
    x.order(4, 2, NONE, NONE);
    Check.doesNothing("tick(1)", x, y -> y.tick(1), NOT);
    Check.due("tick(1) without a map", new FleetController().tick(1), NOT);
    Check.due("tick(200) without a map", new FleetController().tick(200), NOT);
    x.robot(0);
    Check.due("with one", x.tick(1), 1);
    x.read();
    Check.due("gone with read()", x.tick(1), NOT);
  }

  private static void timeOfAtMost4000() {
    Check.sentence("FULL: the time would be more than 4000.");
    Check.due("3800 and 200", at(3800).tick(200), 4000);
    Check.doesNothing("3801 and 200", at(3801), x -> x.tick(200), FULL);
    Check.due("3801 and 199", at(3801).tick(199), 4000);
    Check.due("3999 and 1", at(3999).tick(1), 4000);
    Check.doesNothing("3999 and 2", at(3999), x -> x.tick(2), FULL);
    Check.doesNothing("4000 and 1", at(4000), x -> x.tick(1), FULL);
    Check.doesNothing("4000 and 200", at(4000), x -> x.tick(200), FULL);
    FleetController x = at(4000);
    Check.due("robot(10) at 4000", x.robot(10), NOT);
    Check.due("an order at 4000", x.order(4, 2, NONE, NONE), 0);
    Check.due("told", x.task(0, 5), 4000);
    Check.due("cancel at 4000", x.cancel(0), 1);
    Check.due("closed", x.orderOf(0, 5), 4000);
    x.read();
    x.robot(10);
    Check.due("from 0 on again", x.tick(200), 200);
  }

  private static void firstOfTheTicksRefusals() {
    Check.sentence("The first of: NOT, BAD, FULL");
    int[] wrong = {0, -1, 201, LEAST, MOST};
    for (int n : wrong) {
      Check.due("NOT and BAD: tick(" + n + ")", Check.withMap(COMB).tick(n), NOT);
      Check.due("NOT and BAD: settle(" + n + ")", Check.withMap(COMB).settle(n), NOT);
      Check.due("without a map: tick(" + n + ")", new FleetController().tick(n), NOT);
      Check.due("without a map: settle(" + n + ")", new FleetController().settle(n), NOT);
      Check.due("BAD and FULL: tick(" + n + ")", at(4000).tick(n), BAD);
      Check.due("BAD and FULL: settle(" + n + ")", at(4000).settle(n), BAD);
    }
  }

  private static void wayBeyondTheLastTime() {
    Check.sentence("A PATH is a row of cells, one for each time from some time on (beyond 4000, too)");
    FleetController x = at(3999);
    x.order(4, 2, NONE, NONE);
    x.tick(1);
    Check.plan(x, 0, 5, 6, 7, 2, 7, 8, 9, 4, 4);
    Check.due("ticks to its end", x.robotOf(0, 4), 7);
    Check.due("tick(1)", x.tick(1), FULL);
    Check.due("was(0, 4000)", x.was(0, 4000), 5);
    Check.due("was(0, 4001)", x.was(0, 4001), NONE);
    Check.due("its order stays open", x.orderOf(0, 3), 1);
  }

  private static void ticksUntilNoneIsOpen() {
    Check.sentence("Ticks until no order is open, n at most: how many (0, if none is).");
    int[] most = {1, 7, 8, 9, 200};
    for (int n : most) {
      FleetController x = withRobots(COMB, 0);
      x.order(4, 2, NONE, NONE);
      Check.due("settle(" + n + ")", x.settle(n), Math.min(n, 8));
      Check.due("time", x.count(6), Math.min(n, 8));
      Check.due("open", x.count(3), n < 8 ? 1 : 0);
      Check.due("the rest", x.settle(200), n < 8 ? 8 - n : 0);
      Check.due("time", x.count(6), 8);
    }
    Check.doesNothing("no order at all", at(3), x -> x.settle(200), 0);
    FleetController out = at(3);
    out.order(4, 2, 2, 2);
    out.cancel(0);
    Check.doesNothing("all out", out, x -> x.settle(1), 0);
    FleetController going = withRobots(COMB, 0, 10);
    going.order(4, 2, NONE, NONE);
    going.order(14, 12, NONE, NONE);
    Check.due("the last of two", going.settle(200), 9);
  }

  private static void settleOneTo200() {
    Check.sentence("n at most (1 .. 200). BAD, as before");
    FleetController x = withRobots(COMB, 0);
    x.order(4, 2, 2, 2);
    Check.due("settle(1)", x.settle(1), 1);
    Check.due("settle(200)", x.settle(200), 23);
    int[] wrong = {0, -1, 201, 202, 4001, LEAST, MOST};
    for (int n : wrong) {
      Check.doesNothing("settle(" + n + ")", busy(), y -> y.settle(n), BAD);
      Check.doesNothing("none open: settle(" + n + ")", at(2), y -> y.settle(n), BAD);
    }
    // Thirty tasks of eight ticks each are more than one call can do.
    FleetController many = withRobots(COMB, 0);
    for (int i = 0; i < 10; i++) {
      many.order(4, 2, 2, 2);
    }
    Check.due("200 of 240", many.settle(200), 200);
    Check.due("open", many.count(3), 2);
    Check.due("the other 40", many.settle(200), 40);
    Check.due("open", many.count(3), 0);
  }

  private static void settleUpTo4000() {
    Check.sentence("FULL, as before (FULL if the time and n are more than 4000)");
    Check.due("3800 and 200", at(3800).settle(200), 0);
    Check.doesNothing("3801 and 200, none open", at(3801), x -> x.settle(200), FULL);
    Check.doesNothing("4000 and 1, none open", at(4000), x -> x.settle(1), FULL);
    FleetController x = at(3992);
    x.order(4, 2, NONE, NONE);
    Check.doesNothing("3992 and 9, eight are needed", x, y -> y.settle(9), FULL);
    Check.due("3992 and 8", x.settle(8), 8);
    Check.due("brought at 4000", x.task(0, 8), 4000);
    FleetController y = at(3991);
    y.order(4, 2, NONE, NONE);
    Check.due("3991 and 9", y.settle(9), 8);
    Check.due("time", y.count(6), 3999);
  }

  private static void settleWithoutARobot() {
    Check.sentence("NOT, as before");
    FleetController x = Check.withMap(COMB);
    Check.due("settle(1), none open", x.settle(1), NOT);
    x.order(4, 2, NONE, NONE);
    Check.doesNothing("settle(1)", x, y -> y.settle(1), NOT);
    Check.due("settle(200) without a map", new FleetController().settle(200), NOT);
  }

  private static void tellRobot(FleetController x, int r, int... due) {
    for (int what = 0; what < due.length; what++) {
      Check.due("at " + x.count(6) + " robotOf(" + r + ", " + what + ")", x.robotOf(r, what), due[what]);
    }
  }

  private static void whatARobotIs() {
    Check.sentence("NONE without one that is not BROUGHT; whether it has PICKED that; ticks (0: it has); stays are none");
    FleetController x = withRobots(COMB, 0, 10);
    tellRobot(x, 0, 0, NONE, 0, 0, 0, 0, 0, 0);
    x.order(4, 2, NONE, NONE);
    x.order(14, 12, NONE, NONE);
    tellRobot(x, 0, 0, NONE, 0, 0, 0, 0, 0, 0);
    x.tick(1);
    tellRobot(x, 0, 5, 0, 0, 4, 7, 1, 0, 0);
    tellRobot(x, 1, 10, 1, 0, 14, 8, 0, 0, 0);
    x.tick(2);
    tellRobot(x, 0, 7, 0, 0, 4, 5, 3, 0, 0);
    x.tick(1);
    tellRobot(x, 0, 2, 0, 1, 4, 4, 4, 0, 0);
    tellRobot(x, 1, 7, 1, 0, 14, 5, 3, 0, 0);
    x.tick(3);
    tellRobot(x, 0, 9, 0, 1, 4, 1, 7, 0, 0);
    x.tick(1);
    tellRobot(x, 0, 4, NONE, 0, 4, 0, 8, 1, 0);
    tellRobot(x, 1, 9, 1, 1, 14, 1, 7, 0, 0);
    x.tick(5);
    tellRobot(x, 0, 4, NONE, 0, 4, 0, 8, 1, 0);
    tellRobot(x, 1, 14, NONE, 0, 14, 0, 8, 1, 0);
  }

  private static void noSuchRobot() {
    Check.sentence("The first of (so below): NONE: there is no such robot; BAD: another what.");
    FleetController x = busy();
    int[] none = {-1, 2, 5, 6, LEAST, MOST};
    int[] wrong = {-1, 8, LEAST, MOST};
    for (int r : none) {
      Check.due("robotOf(" + r + ", 0)", x.robotOf(r, 0), NONE);
      Check.due("robotOf(" + r + ", 7)", x.robotOf(r, 7), NONE);
      for (int what : wrong) {
        Check.due("both wrong: robotOf(" + r + ", " + what + ")", x.robotOf(r, what), NONE);
      }
    }
    for (int what : wrong) {
      Check.due("robotOf(0, " + what + ")", x.robotOf(0, what), BAD);
      Check.due("robotOf(1, " + what + ")", x.robotOf(1, what), BAD);
      Check.due("without a map", new FleetController().robotOf(0, what), NONE);
    }
    Check.due("robotOf(1, 0)", x.robotOf(1, 0), 6);
    Check.due("robotOf(1, 7)", x.robotOf(1, 7), 0);
  }

  private static void pathAhead() {
    Check.sentence("The cell that a robot's path has k ticks from now (its end behind that).");
    FleetController x = withRobots(COMB, 0);
    x.order(4, 2, NONE, NONE);
    x.tick(1);
    Check.plan(x, 0, 5, 6, 7, 2, 7, 8, 9, 4, 4, 4);
    int[] far = {200, 3998, 3999, 4000, 4999, 5000, 5001, MOST - 1, MOST};
    for (int k : far) {
      Check.due("ahead(0, " + k + ")", x.ahead(0, k), 4);
    }
    x.tick(7);
    Check.plan(x, 0, 4, 4);
    FleetController last = at(4000);
    Check.due("at 4000: ahead(0, 0)", last.ahead(0, 0), 0);
    Check.due("at 4000: ahead(0, 1)", last.ahead(0, 1), 0);
    Check.due("at 4000: ahead(0, most)", last.ahead(0, MOST), 0);
  }

  private static void aheadOfNone() {
    Check.sentence("NONE: there is no such robot, or k is below 0.");
    FleetController x = busy();
    int[] none = {-1, 2, 5, 6, LEAST, MOST};
    int[] below = {-1, -2, -3, -4, LEAST};
    for (int r : none) {
      Check.due("ahead(" + r + ", 0)", x.ahead(r, 0), NONE);
      Check.due("ahead(" + r + ", most)", x.ahead(r, MOST), NONE);
      Check.due("both wrong: ahead(" + r + ", -1)", x.ahead(r, -1), NONE);
    }
    for (int k : below) {
      Check.due("ahead(0, " + k + ")", x.ahead(0, k), NONE);
      Check.due("ahead(1, " + k + ")", x.ahead(1, k), NONE);
    }
    Check.due("ahead(1, 0)", x.ahead(1, 0), 6);
    Check.due("without a map", new FleetController().ahead(0, 0), NONE);
  }

  private static void wasFromZeroToNow() {
    Check.sentence("Where a robot was at a time, from 0 to now. NONE: there is no such robot or time.");
    FleetController x = busy();
    Check.path(x, 0, 0, 0, 5, 6, 7);
    Check.path(x, 1, 0, 10, 10, 5, 6);
    int[] none = {-1, 4, 5, 4000, 4001, 5000, 5001, LEAST, MOST};
    for (int time : none) {
      Check.due("was(0, " + time + ")", x.was(0, time), NONE);
      Check.due("was(2, " + time + ")", x.was(2, time), NONE);
    }
    int[] noRobots = {-1, 2, 5, 6, LEAST, MOST};
    for (int r : noRobots) {
      Check.due("was(" + r + ", 0)", x.was(r, 0), NONE);
      Check.due("was(" + r + ", 3)", x.was(r, 3), NONE);
    }
    FleetController first = withRobots(COMB, 10);
    Check.due("at 0: was(0, 0)", first.was(0, 0), 10);
    Check.due("at 0: was(0, 1)", first.was(0, 1), NONE);
    FleetController last = at(4000);
    Check.due("at 4000: was(0, 0)", last.was(0, 0), 0);
    Check.due("at 4000: was(0, 4000)", last.was(0, 4000), 0);
    Check.due("at 4000: was(0, 4001)", last.was(0, 4001), NONE);
    Check.due("without a map", new FleetController().was(0, 0), NONE);
  }

  private static void tellCounts(FleetController x, int... due) {
    for (int what = 0; what < due.length; what++) {
      Check.due("at " + x.count(6) + " count(" + what + ")", x.count(what), due[what]);
    }
  }

  private static void counts() {
    Check.sentence("How many: cells, robots, orders, open ones, tasks, pending ones, ..., moves of all robots together");
    FleetController x = Check.withMap(COMB);
    tellCounts(x, 15, 0, 0, 0, 0, 0, 0, 0, 0, 0, 0);
    x.robot(0);
    x.robot(10);
    x.order(4, 2, NONE, NONE);
    x.order(14, 12, 12, NONE);
    tellCounts(x, 15, 2, 2, 2, 3, 3, 0, 0, 0, 0, 0);
    x.tick(1);
    tellCounts(x, 15, 2, 2, 2, 3, 1, 1, 0, 2, 9, 1);
    x.tick(7);
    tellCounts(x, 15, 2, 2, 1, 3, 1, 8, 0, 2, 9, 15);
    x.tick(1);
    tellCounts(x, 15, 2, 2, 1, 3, 1, 9, 0, 2, 9, 16);
    // The third way is shorter than the longest.
    x.tick(1);
    tellCounts(x, 15, 2, 2, 1, 3, 0, 10, 0, 3, 9, 17);
    x.tick(7);
    tellCounts(x, 15, 2, 2, 0, 3, 0, 17, 0, 3, 9, 24);
  }

  private static void countOfAnotherWhat() {
    Check.sentence("BAD: another what.");
    int[] wrong = {-1, 11, 12, LEAST, MOST};
    FleetController x = busy();
    for (int what : wrong) {
      Check.due("count(" + what + ")", x.count(what), BAD);
      Check.due("count(" + what + ") without a map", new FleetController().count(what), BAD);
    }
    Check.due("count(0)", x.count(0), 15);
    Check.due("count(10)", x.count(10), 5);
  }
}
