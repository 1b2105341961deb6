/** Term 2 and promises 8 to 10, 16 and 17: a test for each sentence that names an edge. */
public final class OrderEdgesTest {
  private static final int NONE = FleetController.NONE;
  private static final int BAD = FleetController.BAD;
  private static final int FULL = FleetController.FULL;
  private static final int NOT = FleetController.NOT;
  private static final int LEAST = Integer.MIN_VALUE;
  private static final int MOST = Integer.MAX_VALUE;
  // p0 s2 t4 in the first line, p10 s12 t14 in the third, 5 .. 9 the floor between.
  private static final String COMB = "p#s#t/...../p#s#t";
  // Seven parking cells: 0 2 4 6 in the first line, 14 16 18 in the third; s20, t27.
  private static final String PARKS = "p.p.p.p/......./p.p.p.s/......t";

  public static void main(String[] args) {
    numberOfARobot();
    robotNotWithoutAMap();
    robotNotBehindTimeZero();
    robotOnNoParkingCell();
    sixRobots();
    robotWhereOneIs();
    firstOfARobotsRefusals();
    oneToThreeShelves();
    shelfNone();
    orderNotWithoutAMap();
    orderOfWrongCells();
    atMost40Orders();
    atMost90Tasks();
    bothLimitsAtOnce();
    firstOfAnOrdersRefusals();
    cancelPending();
    cancelLeavesWhatRuns();
    cancelNoSuchOrder();
    openFrom0To2();
    taskFromToldToBrought();
    taskThatIsOut();
    noSuchTask();
    orderFromToldToClosed();
    orderClosedByCancel();
    noSuchOrder();
    Check.end();
  }

  private static FleetController withRobots(String map, int... cells) {
    FleetController x = Check.withMap(map);
    for (int i = 0; i < cells.length; i++) {
      Check.due("robot(" + cells[i] + ")", x.robot(cells[i]), i);
    }
    return x;
  }

  private static FleetController withSix() {
    return withRobots(PARKS, 0, 2, 4, 6, 14, 16);
  }

  private static void numberOfARobot() {
    Check.sentence("A robot is put on a parking cell: its number.");
    FleetController x = Check.withMap(COMB);
    Check.due("none yet", x.count(1), 0);
    Check.due("robot(10)", x.robot(10), 0);
    Check.due("robot(0)", x.robot(0), 1);
    Check.due("robot 0 is in 10", x.robotOf(0, 0), 10);
    Check.due("robot 1 is in 0", x.robotOf(1, 0), 0);
    Check.due("count(1)", x.count(1), 2);
  }

  private static void robotNotWithoutAMap() {
    Check.sentence("NOT: there is no map");
    int[] cells = {0, 1, -1, 79, 80, LEAST, MOST};
    for (int c : cells) {
      Check.doesNothing("robot(" + c + ")", new FleetController(), x -> x.robot(c), NOT);
    }
    Check.doesNothing("robot(0), the map typed only", Check.withText(COMB), x -> x.robot(0), NOT);
  }

  private static void robotNotBehindTimeZero() {
    Check.sentence("NOT: the time is not 0");
    FleetController x = withRobots(COMB, 0);
    x.tick(1);
    Check.doesNothing("robot(10) at 1", x, y -> y.robot(10), NOT);
    FleetController settled = withRobots(COMB, 0);
    settled.order(4, 2, NONE, NONE);
    Check.due("robot behind an order", settled.robot(10), 1);
    settled.settle(1);
    Check.due("robot(10) behind settle", settled.robot(10), NOT);
    settled.read();
    Check.due("robot(10) when the time is 0 again", settled.robot(10), 0);
    FleetController refused = withRobots(COMB, 0);
    refused.tick(0);
    refused.settle(1);
    Check.due("robot(10) behind ticks that were none", refused.robot(10), 1);
  }

  private static void robotOnNoParkingCell() {
    Check.sentence("BAD: it is no parking cell");
    int[] wrong = {1, 2, 4, 5, 9, 14, 15, -1, 79, 80, LEAST, MOST};
    for (int c : wrong) {
      Check.doesNothing("robot(" + c + ")", withRobots(COMB, 0), x -> x.robot(c), BAD);
    }
  }

  private static void sixRobots() {
    Check.sentence("FULL: there are six");
    FleetController x = withRobots(PARKS, 0, 2, 4, 6, 14);
    Check.due("the sixth", x.robot(18), 5);
    Check.due("count(1)", x.count(1), 6);
    Check.due("robotOf(5, 0)", x.robotOf(5, 0), 18);
    FleetController y = withSix();
    Check.due("the seventh", y.robot(18), FULL);
    Check.due("count(1)", y.count(1), 6);
    Check.due("robotOf(6, 0)", y.robotOf(6, 0), NONE);
    y.order(27, 20, NONE, NONE);
    // Robot 5 is in 16, but robot 0 comes first: from 0 to 20 in eight moves, then one to 27.
    Check.due("six can go", y.settle(200), 9);
    y.read();
    Check.due("room again behind read()", y.robot(18), 0);
  }

  private static void robotWhereOneIs() {
    Check.sentence("NONE: a robot is there");
    FleetController x = withRobots(COMB, 0);
    Check.doesNothing("robot(0) again", x, y -> y.robot(0), NONE);
    Check.due("robot(10)", x.robot(10), 1);
    Check.due("robot(0) a third time", x.robot(0), NONE);
    Check.due("robot(10) again", x.robot(10), NONE);
    Check.due("count(1)", x.count(1), 2);
  }

  private static void firstOfARobotsRefusals() {
    Check.sentence("The first of: NOT, BAD, FULL, NONE");
    Check.due("NOT and BAD: no map, no cell", new FleetController().robot(-1), NOT);
    FleetController late = withSix();
    late.tick(1);
    Check.due("NOT and BAD: late, no parking cell", late.robot(1), NOT);
    Check.due("NOT and FULL", late.robot(18), NOT);
    Check.due("NOT, FULL and NONE", late.robot(0), NOT);
    FleetController few = withRobots(PARKS, 0);
    few.tick(1);
    Check.due("NOT and NONE", few.robot(0), NOT);
    Check.due("BAD and FULL", withSix().robot(1), BAD);
    Check.due("BAD and FULL, no cell", withSix().robot(28), BAD);
    Check.due("FULL and NONE", withSix().robot(0), FULL);
    Check.due("FULL and NONE, the last one", withSix().robot(16), FULL);
  }

  private static void oneToThreeShelves() {
    Check.sentence("An ORDER has a station and 1 to 3 shelves; for each of these, as told, a TASK comes");
    FleetController x = Check.withMap(COMB);
    Check.due("one", x.order(4, 12, NONE, NONE), 0);
    Check.due("tasks", x.count(4), 1);
    Check.due("two", x.order(14, 12, 2, NONE), 1);
    Check.due("tasks", x.count(4), 3);
    Check.due("three", x.order(4, 2, 12, 2), 2);
    Check.due("tasks", x.count(4), 6);
    Check.due("three of one shelf", x.order(4, 2, 2, 2), 3);
    Check.due("tasks", x.count(4), 9);
    int[] orders = {0, 1, 1, 2, 2, 2, 3, 3, 3};
    int[] shelves = {12, 12, 2, 2, 12, 2, 2, 2, 2};
    int[] stations = {4, 14, 14, 4, 4, 4, 4, 4, 4};
    for (int i = 0; i < orders.length; i++) {
      Check.due("task(" + i + ", 0)", x.task(i, 0), orders[i]);
      Check.due("task(" + i + ", 1)", x.task(i, 1), shelves[i]);
      Check.due("task(" + i + ", 2)", x.task(i, 2), stations[i]);
    }
    int[] tasks = {1, 2, 3, 3};
    int[] firsts = {0, 1, 3, 6};
    for (int i = 0; i < tasks.length; i++) {
      Check.due("orderOf(" + i + ", 1)", x.orderOf(i, 1), tasks[i]);
      Check.due("orderOf(" + i + ", 2)", x.orderOf(i, 2), firsts[i]);
    }
    Check.due("no robot is needed", x.count(1), 0);
  }

  private static void refusedOrder(int station, int a, int b, int c, int want) {
    FleetController x = withRobots(COMB, 0);
    x.order(4, 2, 12, NONE);
    x.tick(2);
    String call = "order(" + station + ", " + a + ", " + b + ", " + c + ")";
    Check.doesNothing(call, x, y -> y.order(station, a, b, c), want);
  }

  private static void shelfNone() {
    Check.sentence("(b, or c, may be NONE; c must be, if b is: else BAD)");
    FleetController x = Check.withMap(COMB);
    Check.due("b and c NONE", x.order(4, 2, NONE, NONE), 0);
    Check.due("c NONE", x.order(4, 2, 12, NONE), 1);
    Check.due("none NONE", x.order(4, 2, 12, 2), 2);
    refusedOrder(4, 2, NONE, 12, BAD);
    refusedOrder(4, 2, NONE, 0, BAD);
    refusedOrder(4, NONE, NONE, NONE, BAD);
    refusedOrder(4, NONE, 2, 12, BAD);
    refusedOrder(NONE, 2, NONE, NONE, BAD);
    // Other values below 0 are no NONE.
    refusedOrder(4, 2, -2, NONE, BAD);
    refusedOrder(4, 2, -2, -2, BAD);
    refusedOrder(4, 2, 12, -2, BAD);
    refusedOrder(4, 2, NONE, -2, BAD);
    refusedOrder(4, 2, LEAST, NONE, BAD);
    refusedOrder(4, 2, NONE, LEAST, BAD);
  }

  private static void orderNotWithoutAMap() {
    Check.sentence("NOT: there is no map");
    Check.doesNothing("order(4, 2, -1, -1)", new FleetController(), x -> x.order(4, 2, NONE, NONE), NOT);
    Check.doesNothing("typed only", Check.withText(COMB), x -> x.order(4, 2, NONE, NONE), NOT);
    Check.due("NOT and BAD", new FleetController().order(-1, 2, NONE, 2), NOT);
    Check.due("NOT and BAD, all NONE", new FleetController().order(NONE, NONE, NONE, NONE), NOT);
  }

  private static void orderOfWrongCells() {
    Check.sentence("BAD: that is no station, or one is no shelf");
    int[] noStations = {0, 1, 2, 3, 5, 13, 15, -1, 79, 80, LEAST, MOST};
    for (int c : noStations) {
      refusedOrder(c, 2, NONE, NONE, BAD);
      refusedOrder(c, 2, 12, 2, BAD);
    }
    int[] noShelves = {0, 1, 3, 4, 7, 11, 13, 14, 15, -2, 79, 80, LEAST, MOST};
    for (int c : noShelves) {
      refusedOrder(4, c, NONE, NONE, BAD);
      refusedOrder(4, 2, c, NONE, BAD);
      refusedOrder(4, 2, 12, c, BAD);
    }
  }

  private static FleetController withOrders(int orders, int shelves) {
    FleetController x = Check.withMap(COMB);
    for (int i = 0; i < orders; i++) {
      x.order(4, 2, shelves > 1 ? 2 : NONE, shelves > 2 ? 2 : NONE);
    }
    Check.due("orders", x.count(2), orders);
    Check.due("tasks", x.count(4), orders * shelves);
    return x;
  }

  private static void atMost40Orders() {
    Check.sentence("FULL: there would be more than 40 orders");
    Check.due("the 40th", withOrders(39, 1).order(4, 2, NONE, NONE), 39);
    Check.due("the 40th, of two", withOrders(39, 2).order(4, 2, 2, NONE), 39);
    Check.doesNothing("the 41st", withOrders(40, 1), x -> x.order(4, 2, NONE, NONE), FULL);
    Check.doesNothing("the 41st, of three", withOrders(40, 2), x -> x.order(4, 2, 2, 2), FULL);
    FleetController x = withOrders(40, 1);
    for (int i = 0; i < 40; i++) {
      Check.due("cancel(" + i + ")", x.cancel(i), 1);
    }
    Check.due("orders that are open no more count, too", x.order(4, 2, NONE, NONE), FULL);
    x.read();
    Check.due("room again behind read()", x.order(4, 2, NONE, NONE), 0);
  }

  private static void atMost90Tasks() {
    Check.sentence("FULL: there would be more than 90 tasks");
    FleetController most = withOrders(29, 3);
    Check.due("88 to 90", most.order(4, 2, 2, 2), 29);
    Check.due("task(89, 0)", most.task(89, 0), 29);
    Check.due("task(90, 0)", most.task(90, 0), NONE);
    Check.due("91", most.order(4, 2, NONE, NONE), FULL);
    for (int had = 88; had <= 90; had++) {
      for (int more = 1; more <= 3; more++) {
        FleetController x = withOrders(29, 3);
        x.order(4, 2, had > 88 ? 2 : NONE, had > 89 ? 2 : NONE);
        int b = more > 1 ? 12 : NONE;
        int c = more > 2 ? 12 : NONE;
        Check.due(had + " and " + more, x.order(4, 12, b, c), had + more > 90 ? FULL : 30);
        Check.due("tasks of " + had + " and " + more, x.count(4), had + more > 90 ? had : had + more);
      }
    }
    Check.doesNothing("91 to 93", withOrders(30, 3), x -> x.order(4, 2, 2, 2), FULL);
    most.cancel(0);
    Check.due("tasks that are out count, too", most.order(4, 2, NONE, NONE), FULL);
  }

  private static void bothLimitsAtOnce() {
    Check.sentence("FULL: there would be more than 40 orders or 90 tasks");
    FleetController x = withOrders(25, 3);
    for (int i = 25; i < 40; i++) {
      Check.due("order " + i, x.order(14, 12, NONE, NONE), i);
    }
    Check.due("40 orders", x.count(2), 40);
    Check.due("90 tasks", x.count(4), 90);
    Check.doesNothing("one more of each", x, y -> y.order(14, 12, NONE, NONE), FULL);
    Check.due("the last task", x.task(89, 0), 39);
    Check.due("the last order", x.orderOf(39, 2), 89);
  }

  private static void firstOfAnOrdersRefusals() {
    Check.sentence("The first of: NOT, BAD, FULL");
    Check.due("BAD and FULL: no station", withOrders(40, 1).order(2, 2, NONE, NONE), BAD);
    Check.due("BAD and FULL: no shelf", withOrders(40, 1).order(4, 4, NONE, NONE), BAD);
    Check.due("BAD and FULL: c, but no b", withOrders(40, 1).order(4, 2, NONE, 2), BAD);
    Check.due("BAD and FULL: 90 tasks", withOrders(30, 3).order(4, 2, 2, 4), BAD);
    Check.due("NOT and BAD", new FleetController().order(4, 4, NONE, 2), NOT);
  }

  private static void cancelPending() {
    Check.sentence("The pending tasks of an order are OUT: how many these were.");
    FleetController x = Check.withMap(COMB);
    x.order(4, 2, NONE, NONE);
    x.order(4, 2, 12, NONE);
    x.order(14, 2, 12, 12);
    Check.due("of three", x.cancel(2), 3);
    Check.due("of one", x.cancel(0), 1);
    Check.due("again", x.cancel(0), 0);
    int[] states = {4, 0, 0, 4, 4, 4};
    for (int i = 0; i < states.length; i++) {
      Check.due("task(" + i + ", 3)", x.task(i, 3), states[i]);
    }
    Check.due("pending", x.count(5), 2);
    Check.due("open", x.count(3), 1);
    Check.due("of two", x.cancel(1), 2);
    Check.due("pending", x.count(5), 0);
    Check.due("open", x.count(3), 0);
    Check.due("tasks", x.count(4), 6);
    Check.due("orders", x.count(2), 3);
    x.robot(0);
    x.tick(1);
    Check.due("nobody takes what is out", x.robotOf(0, 1), NONE);
  }

  private static void cancelLeavesWhatRuns() {
    Check.sentence("The pending tasks of an order are OUT (no others)");
    int[] ticks = {1, 3, 4, 7, 8};
    int[] states = {1, 1, 2, 2, 3};
    for (int i = 0; i < ticks.length; i++) {
      FleetController x = withRobots(COMB, 0);
      x.order(4, 2, 12, NONE);
      x.tick(ticks[i]);
      Check.due("cancel at " + ticks[i], x.cancel(0), 1);
      Check.due("task(0, 3) at " + ticks[i], x.task(0, 3), states[i]);
      Check.due("task(1, 3) at " + ticks[i], x.task(1, 3), 4);
      Check.doesNothing("again at " + ticks[i], x, y -> y.cancel(0), 0);
      x.tick(20);
      Check.due("task(0, 8)", x.task(0, 8), 8);
      Check.due("task(1, 3)", x.task(1, 3), 4);
      Check.due("moves", x.robotOf(0, 5), 8);
    }
  }

  private static void cancelNoSuchOrder() {
    Check.sentence("BAD: there is no such order.");
    int[] none = {-1, 1, 2, 39, 40, LEAST, MOST};
    for (int i : none) {
      FleetController x = withRobots(COMB, 0);
      x.order(4, 2, 12, 12);
      Check.doesNothing("cancel(" + i + ")", x, y -> y.cancel(i), BAD);
    }
    Check.due("cancel(0) of no order", Check.withMap(COMB).cancel(0), BAD);
    FleetController full = withOrders(40, 1);
    Check.due("cancel(39)", full.cancel(39), 1);
    Check.due("cancel(40)", full.cancel(40), BAD);
  }

  private static void openFrom0To2() {
    Check.sentence("An order is OPEN as long as one of its tasks is 0 to 2.");
    FleetController x = withRobots(COMB, 0);
    x.order(4, 2, NONE, NONE);
    int[] times = {0, 1, 3, 4, 7, 8};
    int[] states = {0, 1, 1, 2, 2, 3};
    for (int i = 0; i < times.length; i++) {
      if (i > 0) {
        x.tick(times[i] - times[i - 1]);
      }
      Check.due("task(0, 3) at " + times[i], x.task(0, 3), states[i]);
      Check.due("orderOf(0, 3) at " + times[i], x.orderOf(0, 3), states[i] < 3 ? 1 : 0);
      Check.due("count(3) at " + times[i], x.count(3), states[i] < 3 ? 1 : 0);
      Check.due("orderOf(0, 5) at " + times[i], x.orderOf(0, 5), states[i] < 3 ? NONE : 8);
    }
    x.order(4, 2, 2, NONE);
    x.tick(8);
    Check.due("one brought, one pending", x.orderOf(1, 3), 1);
    Check.due("its last one", x.settle(200), 8);
    Check.due("both brought", x.orderOf(1, 3), 0);
    Check.due("closed with the last", x.orderOf(1, 5), 24);
  }

  private static void tellTask(FleetController x, int i, int... due) {
    for (int what = 0; what < due.length; what++) {
      Check.due("at " + x.count(6) + " task(" + i + ", " + what + ")", x.task(i, what), due[what]);
    }
  }

  private static void taskFromToldToBrought() {
    Check.sentence("the robot that took it, the time when it was told, TAKEN, PICKED, BROUGHT (NONE, if not yet)");
    FleetController x = withRobots(COMB, 10, 0);
    x.tick(5);
    x.order(4, 2, NONE, NONE);
    tellTask(x, 0, 0, 2, 4, 0, NONE, 5, NONE, NONE, NONE);
    x.tick(1);
    tellTask(x, 0, 0, 2, 4, 1, 0, 5, 5, NONE, NONE);
    x.tick(2);
    tellTask(x, 0, 0, 2, 4, 1, 0, 5, 5, NONE, NONE);
    x.tick(1);
    tellTask(x, 0, 0, 2, 4, 2, 0, 5, 5, 9, NONE);
    x.tick(3);
    tellTask(x, 0, 0, 2, 4, 2, 0, 5, 5, 9, NONE);
    x.tick(1);
    tellTask(x, 0, 0, 2, 4, 3, 0, 5, 5, 9, 13);
    x.tick(1);
    tellTask(x, 0, 0, 2, 4, 3, 0, 5, 5, 9, 13);
    // Robot 0 looks first again, from 4; told and taken at one time, that at which a tick begins.
    x.order(14, 12, NONE, NONE);
    x.tick(1);
    tellTask(x, 1, 1, 12, 14, 1, 0, 14, 14, NONE, NONE);
  }

  private static void taskThatIsOut() {
    Check.sentence("OUT (4)");
    FleetController x = withRobots(COMB, 0);
    x.tick(2);
    x.order(4, 2, NONE, NONE);
    x.cancel(0);
    tellTask(x, 0, 0, 2, 4, 4, NONE, 2, NONE, NONE, NONE);
    x.tick(10);
    tellTask(x, 0, 0, 2, 4, 4, NONE, 2, NONE, NONE, NONE);
  }

  private static void noSuchTask() {
    Check.sentence("The first of: NONE: there is no such task; BAD: another what.");
    FleetController x = Check.withMap(COMB);
    x.order(4, 2, 2, NONE);
    int[] none = {-1, 2, 89, 90, LEAST, MOST};
    int[] wrong = {-1, 9, LEAST, MOST};
    for (int i : none) {
      Check.due("task(" + i + ", 0)", x.task(i, 0), NONE);
      Check.due("task(" + i + ", 8)", x.task(i, 8), NONE);
      for (int what : wrong) {
        Check.due("both wrong: task(" + i + ", " + what + ")", x.task(i, what), NONE);
      }
    }
    for (int what : wrong) {
      Check.due("task(0, " + what + ")", x.task(0, what), BAD);
      Check.due("task(1, " + what + ")", x.task(1, what), BAD);
      Check.due("without a map: task(0, " + what + ")", new FleetController().task(0, what), NONE);
    }
    Check.due("task(1, 0)", x.task(1, 0), 0);
  }

  private static void tellOrder(FleetController x, int i, int... due) {
    for (int what = 0; what < due.length; what++) {
      Check.due("at " + x.count(6) + " orderOf(" + i + ", " + what + ")", x.orderOf(i, what), due[what]);
    }
  }

  private static void orderFromToldToClosed() {
    Check.sentence("the time when it was told, that when it was open no more (by a task that was brought)");
    FleetController x = withRobots(COMB, 0);
    x.tick(4);
    x.order(14, 12, 2, NONE);
    tellOrder(x, 0, 14, 2, 0, 1, 4, NONE);
    x.tick(8);
    tellOrder(x, 0, 14, 2, 0, 1, 4, NONE);
    // From 14 by 2 to 14: four ticks each.
    x.tick(7);
    tellOrder(x, 0, 14, 2, 0, 1, 4, NONE);
    x.tick(1);
    tellOrder(x, 0, 14, 2, 0, 0, 4, 20);
    x.tick(9);
    tellOrder(x, 0, 14, 2, 0, 0, 4, 20);
  }

  private static void orderClosedByCancel() {
    Check.sentence("that when it was open no more (by cancel(); NONE if it is open)");
    FleetController x = withRobots(COMB, 0);
    x.order(4, 2, 2, NONE);
    x.order(14, 12, NONE, NONE);
    x.cancel(1);
    tellOrder(x, 1, 14, 1, 2, 0, 0, 0);
    x.tick(8);
    Check.due("one brought, one pending", x.cancel(0), 1);
    tellOrder(x, 0, 4, 2, 0, 0, 0, 8);
    x.order(4, 2, 2, NONE);
    x.tick(1);
    Check.due("one taken, one pending", x.cancel(2), 1);
    tellOrder(x, 2, 4, 2, 3, 1, 8, NONE);
    x.tick(7);
    tellOrder(x, 2, 4, 2, 3, 0, 8, 16);
    x.tick(3);
    Check.due("nothing is pending", x.cancel(2), 0);
    tellOrder(x, 2, 4, 2, 3, 0, 8, 16);
  }

  private static void noSuchOrder() {
    Check.sentence("The first of: NONE: there is no such order; BAD: another what.");
    FleetController x = Check.withMap(COMB);
    x.order(4, 2, 2, NONE);
    int[] none = {-1, 1, 39, 40, LEAST, MOST};
    int[] wrong = {-1, 6, LEAST, MOST};
    for (int i : none) {
      Check.due("orderOf(" + i + ", 0)", x.orderOf(i, 0), NONE);
      Check.due("orderOf(" + i + ", 5)", x.orderOf(i, 5), NONE);
      for (int what : wrong) {
        Check.due("both wrong: orderOf(" + i + ", " + what + ")", x.orderOf(i, what), NONE);
      }
    }
    for (int what : wrong) {
      Check.due("orderOf(0, " + what + ")", x.orderOf(0, what), BAD);
      Check.due("without a map: orderOf(0, " + what + ")", new FleetController().orderOf(0, what), NONE);
    }
    Check.due("orderOf(0, 0)", x.orderOf(0, 0), 4);
  }
}
