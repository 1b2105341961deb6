/** Promises 8 to 10, 16 and 17: robots that are put, orders, cancel, and what is told of them. */
public final class OrderTest {
  private static final int NONE = FleetController.NONE;
  private static final int BAD = FleetController.BAD;
  private static final int FULL = FleetController.FULL;
  private static final int NOT = FleetController.NOT;
  // p0 s2 t4 in the first line, p10 s12 t14 in the third, 5 .. 9 the floor between.
  private static final String COMB = "p#s#t/...../p#s#t";

  public static void main(String[] args) {
    puttingRobots();
    sixRobots();
    orders();
    limits();
    cancelling();
    cancellingWhatRuns();
    tasksTold();
    ordersTold();
    Check.end();
  }

  private static void puttingRobots() {
    FleetController x = Check.withMap(COMB);
    Check.due("robot on a wall", x.robot(1), BAD);
    Check.due("robot on a shelf", x.robot(2), BAD);
    Check.due("robot on a station", x.robot(4), BAD);
    Check.due("robot on floor", x.robot(5), BAD);
    Check.due("robot(-1)", x.robot(-1), BAD);
    Check.due("robot(15)", x.robot(15), BAD);
    Check.due("robot(10)", x.robot(10), 0);
    Check.due("robot(10) again", x.robot(10), NONE);
    Check.due("robot(0)", x.robot(0), 1);
    Check.due("count(1)", x.count(1), 2);
    Check.due("robotOf(0, 0)", x.robotOf(0, 0), 10);
    Check.due("robotOf(1, 3)", x.robotOf(1, 3), 0);
    x.tick(1);
    Check.due("robot behind a tick", x.robot(0), NOT);
    Check.due("wrong robot behind a tick", x.robot(1), NOT);
  }

  private static void sixRobots() {
    FleetController x = Check.withMap("p.p.p.p/......./p.p.p.s/......t");
    int[] parking = {0, 2, 4, 6, 14, 16};
    for (int i = 0; i < parking.length; i++) {
      Check.due("robot(" + parking[i] + ")", x.robot(parking[i]), i);
    }
    Check.due("a seventh", x.robot(18), FULL);
    Check.due("a seventh on another", x.robot(0), FULL);
    Check.due("a seventh on floor", x.robot(1), BAD);
    Check.due("count(1)", x.count(1), 6);
  }

  private static void orders() {
    FleetController x = Check.withMap(COMB);
    Check.due("one shelf", x.order(4, 2, NONE, NONE), 0);
    Check.due("two shelves", x.order(4, 2, 12, NONE), 1);
    Check.due("three, one twice", x.order(14, 12, 2, 12), 2);
    Check.due("c without b", x.order(4, 2, NONE, 12), BAD);
    Check.due("no a", x.order(4, NONE, NONE, NONE), BAD);
    Check.due("no a, but b", x.order(4, NONE, 2, NONE), BAD);
    Check.due("no station", x.order(2, 2, NONE, NONE), BAD);
    Check.due("no such station", x.order(15, 2, NONE, NONE), BAD);
    Check.due("a is none", x.order(4, 4, NONE, NONE), BAD);
    Check.due("b is none", x.order(4, 2, 0, NONE), BAD);
    Check.due("b is -2", x.order(4, 2, -2, NONE), BAD);
    Check.due("c is none", x.order(4, 2, 2, 5), BAD);
    Check.due("c is -2", x.order(4, 2, 2, -2), BAD);
    Check.due("count(2)", x.count(2), 3);
    Check.due("count(3)", x.count(3), 3);
    Check.due("count(4)", x.count(4), 6);
    Check.due("count(5)", x.count(5), 6);
    int[] shelves = {2, 2, 12, 12, 2, 12};
    int[] stations = {4, 4, 4, 14, 14, 14};
    int[] of = {0, 1, 1, 2, 2, 2};
    for (int i = 0; i < 6; i++) {
      Check.due("task(" + i + ", 0)", x.task(i, 0), of[i]);
      Check.due("task(" + i + ", 1)", x.task(i, 1), shelves[i]);
      Check.due("task(" + i + ", 2)", x.task(i, 2), stations[i]);
    }
  }

  private static void limits() {
    FleetController x = Check.withMap(COMB);
    for (int i = 0; i < 29; i++) {
      Check.due("order " + i, x.order(4, 2, 2, 2), i);
    }
    Check.due("order 29", x.order(4, 2, 2, NONE), 29);
    Check.due("91 and 92 tasks", x.order(4, 2, 2, 2), FULL);
    Check.due("91 tasks", x.order(4, 2, 2, NONE), FULL);
    Check.due("wrong and full", x.order(4, 4, 2, NONE), BAD);
    Check.due("90 tasks", x.order(4, 2, NONE, NONE), 30);
    Check.due("one more", x.order(4, 2, NONE, NONE), FULL);
    Check.due("count(4)", x.count(4), 90);
    Check.due("task(89, 0)", x.task(89, 0), 30);
    Check.due("task(90, 0)", x.task(90, 0), NONE);
    FleetController y = Check.withMap(COMB);
    for (int i = 0; i < 40; i++) {
      Check.due("order " + i, y.order(14, 2, NONE, NONE), i);
    }
    Check.due("order 40", y.order(14, 2, NONE, NONE), FULL);
    y.cancel(0);
    Check.due("order 40 behind cancel", y.order(14, 2, NONE, NONE), FULL);
    Check.due("count(2)", y.count(2), 40);
  }

  private static void cancelling() {
    FleetController x = Check.withMap(COMB);
    Check.due("cancel of none", x.cancel(0), BAD);
    x.order(4, 2, 12, 2);
    x.order(14, 2, NONE, NONE);
    Check.due("cancel(2)", x.cancel(2), BAD);
    Check.due("cancel(-1)", x.cancel(-1), BAD);
    Check.due("cancel(0)", x.cancel(0), 3);
    Check.due("cancel(0) again", x.cancel(0), 0);
    for (int i = 0; i < 3; i++) {
      Check.due("task(" + i + ", 3)", x.task(i, 3), 4);
    }
    Check.due("task(3, 3)", x.task(3, 3), 0);
    Check.due("count(3)", x.count(3), 1);
    Check.due("count(5)", x.count(5), 1);
    Check.due("orderOf(0, 3)", x.orderOf(0, 3), 0);
    Check.due("orderOf(0, 5)", x.orderOf(0, 5), 0);
    Check.due("orderOf(1, 5)", x.orderOf(1, 5), NONE);
    x.robot(0);
    Check.due("settle(200)", x.settle(200), 8);
    Check.due("nobody took it", x.task(0, 4), NONE);
    Check.due("the other was brought", x.task(3, 8), 8);
  }

  private static void cancellingWhatRuns() {
    FleetController x = Check.withMap(COMB);
    x.robot(0);
    x.order(4, 2, 12, 12);
    x.tick(2);
    Check.due("cancel with one taken", x.cancel(0), 2);
    Check.due("it is open", x.orderOf(0, 3), 1);
    Check.due("NONE yet", x.orderOf(0, 5), NONE);
    Check.due("cancel again", x.cancel(0), 0);
    Check.due("settle(200)", x.settle(200), 6);
    Check.due("closed by what was brought", x.orderOf(0, 5), 8);
    Check.due("cancel behind its end", x.cancel(0), 0);
    Check.due("it stays", x.orderOf(0, 5), 8);
    x.order(4, 2, 2, NONE);
    x.tick(20);
    Check.due("task(3, 8)", x.task(3, 8), 8 + 8);
    Check.due("task(4, 3)", x.task(4, 3), 3);
    x.order(4, 2, 2, NONE);
    x.tick(9);
    Check.due("one brought, one taken", x.cancel(2), 0);
    x.order(14, 2, 2, NONE);
    Check.due("time", x.count(6), 37);
    Check.due("two pending", x.cancel(3), 2);
    Check.due("closed by cancel", x.orderOf(3, 5), 37);
    Check.due("open ones", x.count(3), 1);
  }

  private static void tasksTold() {
    FleetController x = Check.withMap(COMB);
    x.robot(10);
    x.robot(0);
    x.tick(3);
    x.order(14, 2, 12, NONE);
    int[] told = {0, 2, 14, 0, NONE, 3, NONE, NONE, NONE};
    tell(x, 0, told);
    x.tick(2);
    // Both shelves are four moves off, so the lesser number is taken, by robot 0.
    tell(x, 0, new int[] {0, 2, 14, 1, 0, 3, 3, NONE, NONE});
    tell(x, 1, new int[] {0, 12, 14, 0, NONE, 3, NONE, NONE, NONE});
    x.tick(2);
    tell(x, 0, new int[] {0, 2, 14, 2, 0, 3, 3, 7, NONE});
    x.tick(4);
    tell(x, 0, new int[] {0, 2, 14, 3, 0, 3, 3, 7, 11});
    tell(x, 1, new int[] {0, 12, 14, 0, NONE, 3, NONE, NONE, NONE});
    x.tick(1);
    tell(x, 1, new int[] {0, 12, 14, 1, 0, 3, 11, NONE, NONE});
    Check.due("task(0, 9)", x.task(0, 9), BAD);
    Check.due("task(0, -1)", x.task(0, -1), BAD);
    Check.due("task(2, 0)", x.task(2, 0), NONE);
    Check.due("task(2, 9)", x.task(2, 9), NONE);
    Check.due("task(-1, 0)", x.task(-1, 0), NONE);
  }

  private static void tell(FleetController x, int task, int[] due) {
    for (int what = 0; what < due.length; what++) {
      Check.due("task(" + task + ", " + what + ")", x.task(task, what), due[what]);
    }
  }

  private static void ordersTold() {
    FleetController x = Check.withMap(COMB);
    x.robot(0);
    x.order(4, 2, NONE, NONE);
    x.tick(5);
    x.order(14, 12, 2, 2);
    int[] first = {4, 1, 0, 1, 0, NONE};
    int[] second = {14, 3, 1, 1, 5, NONE};
    for (int what = 0; what < 6; what++) {
      Check.due("orderOf(0, " + what + ")", x.orderOf(0, what), first[what]);
      Check.due("orderOf(1, " + what + ")", x.orderOf(1, what), second[what]);
    }
    Check.due("settle(3)", x.settle(3), 3);
    Check.due("orderOf(0, 3)", x.orderOf(0, 3), 0);
    Check.due("orderOf(0, 5)", x.orderOf(0, 5), 8);
    Check.due("orderOf(0, 6)", x.orderOf(0, 6), BAD);
    Check.due("orderOf(0, -1)", x.orderOf(0, -1), BAD);
    Check.due("orderOf(2, 0)", x.orderOf(2, 0), NONE);
    Check.due("orderOf(2, 6)", x.orderOf(2, 6), NONE);
    Check.due("orderOf(-1, 0)", x.orderOf(-1, 0), NONE);
  }
}
