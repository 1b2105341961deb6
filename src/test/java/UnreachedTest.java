import java.lang.reflect.Field;
import java.lang.reflect.Method;

/**
 * Sentences of term 3 that no run of calls leads to: by the document no robot ever ends in a shelf, so
 * none goes OFF or takes a task where its shelf is, and THE WAY leaves nothing to the monitor. Here
 * robots are set into such cells by hand, past the face.
 */
public final class UnreachedTest {
  private static final int NONE = FleetController.NONE;
  // p0 s2 t4 in the first line, p10 s12 t14 in the third, 5 .. 9 the floor between.
  private static final String COMB = "p#s#t/...../p#s#t";
  // p0 s2 t4 p6 in the first line, p14 s16 t18 in the third, 7 .. 13 the floor between.
  private static final String WIDE = "p#s#t#p/......./p#s#t##";

  public static void main(String[] args) throws ReflectiveOperationException {
    goesOffToTheNearestPlace();
    thereWhenItTookIt();
    offNotToAPendingStation();
    offNotToAnothersEnd();
    offToTheLeastCell();
    offByDistanceThroughPlaces();
    offByTheWay();
    offForItsOwnStationAlone();
    offIsGoneWithRead();
    twoInOneCell();
    twoThatChangePlaces();
    oneInAWall();
    furtherThanAMove();
    Check.end();
  }

  /** Sets a robot's path from time 0 on. */
  private static void set(FleetController x, int r, int... path) throws ReflectiveOperationException {
    Object fleet = inside(x, "fleet");
    Object table = inside(fleet, "table");
    for (int time = 0; time < path.length; time++) {
      method(table, "write").invoke(table, r, time, path[time]);
    }
    method(table, "setEnd").invoke(table, r, path.length - 1, path[path.length - 1]);
    Check.due("set", x.ahead(r, path.length - 1), path[path.length - 1]);
  }

  private static Object inside(Object of, String name) throws ReflectiveOperationException {
    Field field = of.getClass().getDeclaredField(name);
    field.setAccessible(true);
    return field.get(of);
  }

  private static Method method(Object of, String name) throws ReflectiveOperationException {
    Method method = of.getClass().getDeclaredMethod(name, int.class, int.class, int.class);
    method.setAccessible(true);
    return method;
  }

  /** Robot 0 in station 4, robot 1 in shelf 2, from where a task to 4 is pending. */
  private static FleetController shelfTaken() throws ReflectiveOperationException {
    FleetController x = Check.withMap(COMB);
    x.robot(0);
    x.robot(10);
    set(x, 0, 4);
    set(x, 1, 2);
    x.order(4, 2, NONE, NONE);
    return x;
  }

  private static void tellRobot(FleetController x, int r, int... due) {
    for (int what = 0; what < due.length; what++) {
      Check.due("at " + x.count(6) + " robotOf(" + r + ", " + what + ")", x.robotOf(r, what), due[what]);
    }
  }

  private static void goesOffToTheNearestPlace() throws ReflectiveOperationException {
    Check.sentence("it goes OFF: of places the one with the least distance becomes its end, by THE WAY there");
    FleetController x = shelfTaken();
    Check.due("of two other cells", x.distance(0, 12), 4);
    x.tick(1);
    tellRobot(x, 0, 9, NONE, 0, 14, 1, 1, 0, 1);
    Check.plan(x, 0, 9, 14, 14);
    x.tick(1);
    tellRobot(x, 0, 14, NONE, 0, 14, 0, 2, 0, 1);
    x.tick(9);
    tellRobot(x, 0, 14, NONE, 0, 14, 0, 2, 0, 1);
    Check.due("its way is counted", x.count(8), 2);
  }

  // Robot 0 has gone OFF before, so 4 is its end no more.
  private static void thereWhenItTookIt() throws ReflectiveOperationException {
    Check.sentence("(or was there when it took it, then at t) has PICKED it");
    FleetController x = shelfTaken();
    x.tick(1);
    tellRobot(x, 1, 7, 0, 1, 4, 3, 1, 0, 0);
    Check.due("taken", x.task(0, 6), 0);
    Check.due("picked", x.task(0, 7), 0);
    Check.due("state", x.task(0, 3), 2);
    x.tick(3);
    Check.path(x, 1, 0, 2, 7, 8, 9, 4);
    Check.due("picked still", x.task(0, 7), 0);
    Check.due("brought", x.task(0, 8), 4);
  }

  private static void offNotToAPendingStation() throws ReflectiveOperationException {
    Check.sentence("of places that are no pending task's station");
    FleetController x = shelfTaken();
    x.order(14, 2, NONE, NONE);
    x.tick(1);
    Check.due("12 and not 14", x.robotOf(0, 3), 12);
    Check.plan(x, 0, 9, 8, 7, 12);
    FleetController out = shelfTaken();
    out.order(14, 2, NONE, NONE);
    out.cancel(1);
    out.tick(1);
    Check.due("14, whose task is out", out.robotOf(0, 3), 14);
  }

  private static void offNotToAnothersEnd() throws ReflectiveOperationException {
    Check.sentence("of places that are no other robot's end");
    FleetController x = withThree();
    set(x, 0, 4);
    set(x, 1, 2);
    set(x, 2, 18);
    x.order(4, 2, NONE, NONE);
    x.tick(1);
    Check.due("6 and not 18", x.robotOf(0, 3), 6);
    Check.due("off", x.robotOf(0, 7), 1);
    Check.due("robot 2 stays", x.robotOf(2, 0), 18);
    Check.due("and is not off", x.robotOf(2, 7), 0);
  }

  private static void offToTheLeastCell() throws ReflectiveOperationException {
    Check.sentence("the one with the least distance (of several the least cell)");
    FleetController x = Check.withMap("p.t.p/...../..s..");
    x.robot(4);
    x.robot(0);
    set(x, 0, 2);
    set(x, 1, 12);
    x.order(2, 12, NONE, NONE);
    x.tick(1);
    Check.due("0 and not 4", x.robotOf(0, 3), 0);
    Check.plan(x, 0, 1, 0, 0);
  }

  // 2 is two moves from 0 through the shelf in which robot 1 is, 7 is three by the floor alone.
  private static void offByDistanceThroughPlaces() throws ReflectiveOperationException {
    Check.sentence("the one with the least distance (through places, too)");
    FleetController x = Check.withMap("tsp../..p../.....");
    x.robot(2);
    x.robot(7);
    set(x, 0, 0);
    set(x, 1, 1);
    x.order(0, 1, NONE, NONE);
    x.tick(1);
    Check.due("2 and not 7", x.robotOf(0, 3), 2);
    Check.plan(x, 0, 5, 6, 7, 2, 2);
  }

  // Robot 1 leaves 14 for shelf 2 and is in 9 at 1, so robot 0 can be there at 2.
  private static void offByTheWay() throws ReflectiveOperationException {
    Check.sentence("by THE WAY there: otherwise its last cell is that to which it goes");
    FleetController x = Check.withMap(COMB);
    x.robot(0);
    x.robot(10);
    set(x, 0, 4);
    set(x, 1, 14, 9, 8, 7, 2);
    x.order(4, 2, NONE, NONE);
    x.tick(1);
    Check.due("off to 14, which robot 1 leaves", x.robotOf(0, 3), 14);
    x.tick(3);
    Check.path(x, 0, 0, 4, 4, 9, 14, 14);
    Check.path(x, 1, 0, 14, 9, 8, 7, 2);
    Check.due("off once", x.robotOf(0, 7), 1);
    Check.due("count(9)", x.count(9), 3);
    Check.due("count(7)", x.count(7), 0);
  }

  private static void offForItsOwnStationAlone() throws ReflectiveOperationException {
    Check.sentence("if some pending task has its cell as its station; otherwise it stays");
    FleetController x = withThree();
    set(x, 0, 18);
    set(x, 1, 2);
    set(x, 2, 4);
    x.order(4, 2, NONE, NONE);
    x.tick(1);
    Check.due("robot 0 in 18 stays", x.robotOf(0, 0), 18);
    Check.due("and is not off", x.robotOf(0, 7), 0);
    Check.due("robot 2 in 4 is off", x.robotOf(2, 7), 1);
  }

  private static void offIsGoneWithRead() throws ReflectiveOperationException {
    Check.sentence("robots, orders and all that was are gone");
    FleetController x = shelfTaken();
    x.tick(1);
    Check.due("off", x.robotOf(0, 7), 1);
    x.order(4, 12, 12, NONE);
    x.read();
    x.robot(0);
    x.robot(10);
    Check.due("off no more", x.robotOf(0, 7), 0);
    set(x, 0, 4);
    set(x, 1, 2);
    x.order(14, 2, NONE, NONE);
    x.tick(1);
    Check.due("no task to 4 is pending any more", x.robotOf(0, 7), 0);
    Check.due("so robot 0 stays", x.robotOf(0, 0), 4);
  }

  private static FleetController withThree() {
    FleetController x = Check.withMap(WIDE);
    x.robot(0);
    x.robot(14);
    x.robot(6);
    return x;
  }

  private static FleetController withTwo() {
    FleetController x = Check.withMap(COMB);
    x.robot(0);
    x.robot(10);
    return x;
  }

  private static void twoInOneCell() throws ReflectiveOperationException {
    Check.sentence("THE MONITOR looks at each tick: two robots in one cell");
    FleetController x = withTwo();
    set(x, 0, 5, 6);
    set(x, 1, 7, 6);
    x.tick(1);
    Check.due("count(7)", x.count(7), 1);
    x.tick(2);
    Check.due("at each tick", x.count(7), 3);
    x.read();
    Check.due("behind read()", x.count(7), 0);
  }

  private static void twoThatChangePlaces() throws ReflectiveOperationException {
    Check.sentence("two that change places");
    FleetController x = withTwo();
    set(x, 0, 5, 6);
    set(x, 1, 6, 5);
    x.tick(1);
    Check.due("count(7)", x.count(7), 1);
    x.tick(5);
    Check.due("once", x.count(7), 1);
    FleetController y = withTwo();
    set(y, 0, 5, 6);
    set(y, 1, 6, 7);
    y.tick(1);
    Check.due("one behind the other", y.count(7), 0);
  }

  private static void oneInAWall() throws ReflectiveOperationException {
    Check.sentence("one in a wall");
    FleetController x = withTwo();
    set(x, 0, 0, 1);
    x.tick(1);
    Check.due("count(7)", x.count(7), 1);
    x.tick(1);
    Check.due("it stays there", x.count(7), 2);
  }

  private static void furtherThanAMove() throws ReflectiveOperationException {
    Check.sentence("one that goes further than a move");
    int[][] steps = {{6, 6}, {7, 2}, {6, 7}, {7, 12}, {6, 5}, {6, 8}, {2, 12}, {5, 4}, {6, 2}, {0, 14}};
    int[] due = {0, 0, 0, 0, 0, 1, 1, 1, 1, 1};
    for (int i = 0; i < steps.length; i++) {
      FleetController x = Check.withMap(COMB);
      x.robot(0);
      set(x, 0, steps[i]);
      x.tick(1);
      Check.due("from " + steps[i][0] + " to " + steps[i][1], x.count(7), due[i]);
    }
  }
}
