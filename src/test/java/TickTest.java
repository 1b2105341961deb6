/** Promises 11 to 15 and 18: ticks, who takes what, and what is told of robots and in all. */
public final class TickTest {
  private static final int NONE = FleetController.NONE;
  private static final int BAD = FleetController.BAD;
  private static final int FULL = FleetController.FULL;
  private static final int NOT = FleetController.NOT;
  // p0 s2 t4 in the first line, p10 s12 t14 in the third, 5 .. 9 the floor between.
  private static final String COMB = "p#s#t/...../p#s#t";

  public static void main(String[] args) {
    wrongTicks();
    theLastTime();
    settling();
    nearestTask();
    endsOfOthers();
    whatIsToldOfARobot();
    whatWas();
    counts();
    Check.end();
  }

  private static void wrongTicks() {
    FleetController x = Check.withMap(COMB);
    Check.due("tick without a robot", x.tick(1), NOT);
    Check.due("wrong tick without a robot", x.tick(0), NOT);
    Check.due("settle without a robot", x.settle(201), NOT);
    x.robot(0);
    int[] wrong = {0, -1, 201, Integer.MAX_VALUE, Integer.MIN_VALUE};
    for (int n : wrong) {
      Check.due("tick(" + n + ")", x.tick(n), BAD);
      Check.due("settle(" + n + ")", x.settle(n), BAD);
    }
    Check.due("nothing is done", x.count(6), 0);
    Check.due("tick(1)", x.tick(1), 1);
    Check.due("tick(200)", x.tick(200), 201);
  }

  private static void theLastTime() {
    FleetController x = Check.withMap(COMB);
    x.robot(0);
    for (int i = 1; i < 20; i++) {
      Check.due("tick(200)", x.tick(200), 200 * i);
    }
    Check.due("tick(199)", x.tick(199), 3999);
    x.order(4, 2, 2, NONE);
    Check.due("tick(2) beyond 4000", x.tick(2), FULL);
    Check.due("settle(2) beyond 4000", x.settle(2), FULL);
    Check.due("wrong n at the end", x.tick(0), BAD);
    Check.due("nothing is done", x.task(0, 3), 0);
    Check.due("tick(1) up to 4000", x.tick(1), 4000);
    Check.due("tick(1) beyond 4000", x.tick(1), FULL);
    Check.due("settle(1) beyond 4000", x.settle(1), FULL);
    Check.plan(x, 0, 5, 6, 7, 2, 7, 8, 9, 4, 4);
    Check.due("was(0, 4000)", x.was(0, 4000), 5);
    Check.due("was(0, 3999)", x.was(0, 3999), 0);
    Check.due("was(0, 4001)", x.was(0, 4001), NONE);
    x.cancel(0);
    Check.due("settle at the end", x.settle(1), FULL);
  }

  private static void settling() {
    FleetController x = Check.withMap(COMB);
    x.robot(0);
    Check.due("settle without an order", x.settle(200), 0);
    Check.due("no tick", x.count(6), 0);
    x.order(4, 2, NONE, NONE);
    Check.due("settle(3)", x.settle(3), 3);
    Check.due("time", x.count(6), 3);
    Check.due("settle(200)", x.settle(200), 5);
    Check.due("time", x.count(6), 8);
    Check.due("settle(1)", x.settle(1), 0);
    x.order(4, 2, NONE, NONE);
    x.cancel(1);
    Check.due("settle behind cancel", x.settle(1), 0);
    Check.due("time", x.count(6), 8);
  }

  private static void nearestTask() {
    FleetController x = Check.withMap("p.s.s/...../t...s");
    x.robot(0);
    x.order(10, 14, 4, 2);
    x.tick(1);
    Check.due("the nearest shelf", x.robotOf(0, 1), 2);
    x.settle(200);
    // From the station at 10: shelf 14 is 4 moves off, shelf 4 six.
    Check.due("the nearer one first", x.task(0, 6), x.task(2, 8));
    Check.due("the farther one last", x.task(1, 6), x.task(0, 8));
    FleetController y = Check.withMap("s.p.s/...../..t..");
    y.robot(2);
    y.order(12, 4, 0, NONE);
    y.tick(1);
    Check.due("of two as near the least number", y.robotOf(0, 1), 0);
    Check.due("its shelf", y.task(0, 1), 4);
  }

  private static void endsOfOthers() {
    FleetController x = Check.withMap(COMB);
    x.robot(0);
    x.robot(10);
    x.order(4, 2, 2, NONE);
    x.order(14, 2, NONE, NONE);
    x.tick(1);
    Check.due("robot 0", x.robotOf(0, 1), 0);
    Check.due("the station of task 1 is an end, that of task 2 is none", x.robotOf(1, 1), 2);
    FleetController y = Check.withMap(COMB);
    y.robot(0);
    y.robot(10);
    y.order(4, 2, 2, 2);
    Check.due("settle(200)", y.settle(200), 24);
    Check.due("robot 0 brings all", y.robotOf(0, 6), 3);
    Check.due("robot 1 stays", y.robotOf(1, 5), 0);
    Check.due("robot 1 goes not off", y.robotOf(1, 7), 0);
    y.order(4, 12, NONE, NONE);
    y.order(14, 12, NONE, NONE);
    y.tick(1);
    Check.due("robot 0 takes a task of its own station", y.robotOf(0, 1), 3);
    Check.due("robot 1 takes that of another", y.robotOf(1, 1), 4);
  }

  private static void whatIsToldOfARobot() {
    FleetController x = Check.withMap(COMB);
    x.robot(0);
    x.robot(10);
    tell(x, 0, 0, NONE, 0, 0, 0, 0, 0, 0);
    x.order(4, 2, NONE, NONE);
    tell(x, 0, 0, NONE, 0, 0, 0, 0, 0, 0);
    x.tick(1);
    tell(x, 0, 5, 0, 0, 4, 7, 1, 0, 0);
    tell(x, 1, 10, NONE, 0, 10, 0, 0, 0, 0);
    x.tick(3);
    tell(x, 0, 2, 0, 1, 4, 4, 4, 0, 0);
    x.tick(3);
    tell(x, 0, 9, 0, 1, 4, 1, 7, 0, 0);
    Check.due("ahead(0, 0)", x.ahead(0, 0), 9);
    Check.due("ahead(0, 1)", x.ahead(0, 1), 4);
    Check.due("ahead(0, 2)", x.ahead(0, 2), 4);
    Check.due("ahead(0, most)", x.ahead(0, Integer.MAX_VALUE), 4);
    Check.due("ahead(1, most)", x.ahead(1, Integer.MAX_VALUE), 10);
    Check.due("ahead(0, -1)", x.ahead(0, -1), NONE);
    Check.due("ahead(0, least)", x.ahead(0, Integer.MIN_VALUE), NONE);
    Check.due("ahead(2, 0)", x.ahead(2, 0), NONE);
    Check.due("ahead(-1, 0)", x.ahead(-1, 0), NONE);
    x.tick(1);
    tell(x, 0, 4, NONE, 0, 4, 0, 8, 1, 0);
    Check.due("robotOf(0, 8)", x.robotOf(0, 8), BAD);
    Check.due("robotOf(0, -1)", x.robotOf(0, -1), BAD);
    Check.due("robotOf(2, 0)", x.robotOf(2, 0), NONE);
    Check.due("robotOf(2, 8)", x.robotOf(2, 8), NONE);
    Check.due("robotOf(-1, 0)", x.robotOf(-1, 0), NONE);
  }

  private static void tell(FleetController x, int r, int... due) {
    for (int what = 0; what < due.length; what++) {
      Check.due("robotOf(" + r + ", " + what + ")", x.robotOf(r, what), due[what]);
    }
  }

  private static void whatWas() {
    FleetController x = Check.withMap(COMB);
    x.robot(0);
    Check.due("was(0, 0)", x.was(0, 0), 0);
    Check.due("was(0, 1)", x.was(0, 1), NONE);
    x.tick(2);
    x.order(4, 2, NONE, NONE);
    x.tick(12);
    x.order(14, 12, NONE, NONE);
    x.tick(10);
    Check.path(x, 0, 0, 0, 0, 0, 5, 6, 7, 2, 7, 8, 9, 4, 4, 4, 4, 4);
    Check.path(x, 0, 15, 9, 8, 7, 12, 7, 8, 9, 14, 14, 14);
    Check.due("was(0, 25)", x.was(0, 25), NONE);
    Check.due("was(0, -1)", x.was(0, -1), NONE);
    Check.due("was(1, 0)", x.was(1, 0), NONE);
    Check.due("was(-1, 0)", x.was(-1, 0), NONE);
  }

  private static void counts() {
    FleetController x = Check.withMap(COMB);
    x.robot(0);
    x.robot(10);
    x.order(4, 2, NONE, NONE);
    x.order(14, 12, 12, NONE);
    count(x, 15, 2, 2, 2, 3, 3, 0, 0, 0, 0, 0);
    x.tick(2);
    count(x, 15, 2, 2, 2, 3, 1, 2, 0, 2, 9, 3);
    x.tick(6);
    count(x, 15, 2, 2, 1, 3, 1, 8, 0, 2, 9, 15);
    // Robot 0 in 4 has no fit task, for 14 is robot 1's end, and nothing is pending for 4.
    x.tick(1);
    count(x, 15, 2, 2, 1, 3, 1, 9, 0, 2, 9, 16);
    x.settle(200);
    count(x, 15, 2, 2, 0, 3, 0, 17, 0, 3, 9, 24);
    Check.due("count(11)", x.count(11), BAD);
    Check.due("count(-1)", x.count(-1), BAD);
  }

  private static void count(FleetController x, int... due) {
    for (int what = 0; what < due.length; what++) {
      Check.due("at " + x.count(6) + ": count(" + what + ")", x.count(what), due[what]);
    }
  }
}
