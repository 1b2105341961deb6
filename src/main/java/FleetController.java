import java.util.Arrays;

/**
 * A fleet of robots in a warehouse: a map that is read from a text, orders that become tasks, robots
 * that get the earliest way beside all promised ones, and a monitor.
 */
public final class FleetController {
  public static final int NONE = -1, BAD = -2, FULL = -3, NOT = -4;
  public static final int SIGN = -11, SHAPE = -12, KIND = -13, JOINED = -14;

  private static final int MOST_SIGNS = 90;
  private static final int MOST_LINES = 8;
  private static final int MOST_COLUMNS = 10;
  private static final int MOST_CELLS = MOST_LINES * MOST_COLUMNS;
  private static final int MOST_ROBOTS = 6;
  private static final int MOST_ORDERS = 40;
  private static final int MOST_TASKS = 90;
  private static final int MOST_TICKS = 200;
  private static final int LAST_TIME = 4000;

  // No way is longer: a robot can stay until all other paths have ended and then go two legs of
  // fewer than 80 moves each; of the paths that run at one time each ends by at most such two legs
  // behind the one before, so the last of six by 6 * 158 = 948 ticks from now.
  private static final int LONGEST_WAY = 1000;

  private static final int WALL = 0, FLOOR = 1, SHELF = 2, STATION = 3, PARKING = 4, LINE_END = 5;
  private static final int PENDING = 0, TAKEN = 1, PICKED = 2, BROUGHT = 3, OUT = 4;
  private static final int MOVES = 5;

  // A map without cells stands for none; the draft keeps a faulty read away from the map in use.
  private Grid map = new Grid();
  private Grid draft = new Grid();
  private final MapText text = new MapText();
  private final Orders orders = new Orders();
  private final Fleet fleet = new Fleet(map, orders);
  private int faultPlace = NONE;

  public FleetController() {
  }

  public int type(long w) {
    return text.append(w);
  }

  public int erase() {
    return text.wipe();
  }

  public int read() {
    int fault = findFault();
    if (fault != 0) {
      return fault;
    }
    Grid fresh = draft;
    draft = map;
    map = fresh;
    orders.clear();
    fleet.begin(map);
    return map.size();
  }

  public int place() {
    return faultPlace;
  }

  public int cell(int c) {
    return map.kindAt(c);
  }

  public int distance(int a, int b) {
    if (!map.has(a) || !map.has(b)) {
      return BAD;
    }
    map.measureFrom(a, true);
    return map.measured(b);
  }

  public int robot(int c) {
    if (map.size() == 0 || fleet.now() != 0) {
      return NOT;
    }
    if (map.kindAt(c) != PARKING) {
      return BAD;
    }
    return fleet.put(c);
  }

  public int order(int station, int a, int b, int c) {
    if (map.size() == 0) {
      return NOT;
    }
    if (map.kindAt(station) != STATION || !areShelves(a, b, c)) {
      return BAD;
    }
    int wanted = b == NONE ? 1 : c == NONE ? 2 : 3;
    if (!orders.haveRoomFor(wanted)) {
      return FULL;
    }
    int number = orders.add(station, wanted, fleet.now());
    orders.addTask(number, a);
    if (wanted > 1) {
      orders.addTask(number, b);
    }
    if (wanted > 2) {
      orders.addTask(number, c);
    }
    return number;
  }

  public int cancel(int order) {
    return orders.cancelPending(order, fleet.now());
  }

  public int tick(int n) {
    int refusal = refusalOfTicks(n);
    if (refusal != 0) {
      return refusal;
    }
    for (int i = 0; i < n; i++) {
      fleet.step();
    }
    return fleet.now();
  }

  public int settle(int n) {
    int refusal = refusalOfTicks(n);
    if (refusal != 0) {
      return refusal;
    }
    int ticks = 0;
    while (ticks < n && orders.open() > 0) {
      fleet.step();
      ticks++;
    }
    return ticks;
  }

  public int robotOf(int r, int what) {
    return fleet.tellRobot(r, what);
  }

  public int ahead(int r, int k) {
    return fleet.cellIn(r, k);
  }

  public int was(int r, int time) {
    return fleet.cellAt(r, time);
  }

  public int task(int i, int what) {
    return orders.tellTask(i, what);
  }

  public int orderOf(int i, int what) {
    return orders.tellOrder(i, what);
  }

  public int count(int what) {
    switch (what) {
      case 0: return map.size();
      case 1: return fleet.size();
      case 2: return orders.size();
      case 3: return orders.open();
      case 4: return orders.tasks();
      case 5: return orders.pending();
      case 6: return fleet.now();
      case 7: return fleet.alarms();
      case 8: return fleet.ways();
      case 9: return fleet.longestWay();
      case 10: return fleet.moves();
      default: return BAD;
    }
  }

  private int findFault() {
    int fault = text.findFault();
    if (fault != 0) {
      faultPlace = text.faultPlace();
      return fault;
    }
    draft.load(text);
    if (!draft.hasAllKinds()) {
      faultPlace = text.length();
      return KIND;
    }
    int apart = draft.firstPlaceApart();
    if (apart != NONE) {
      faultPlace = draft.placeInText(apart);
      return JOINED;
    }
    faultPlace = NONE;
    return 0;
  }

  private boolean areShelves(int a, int b, int c) {
    if (map.kindAt(a) != SHELF) {
      return false;
    }
    if (b == NONE) {
      return c == NONE;
    }
    return map.kindAt(b) == SHELF && (c == NONE || map.kindAt(c) == SHELF);
  }

  private int refusalOfTicks(int n) {
    if (fleet.size() == 0) {
      return NOT;
    }
    if (n < 1 || n > MOST_TICKS) {
      return BAD;
    }
    return fleet.now() + n > LAST_TIME ? FULL : 0;
  }

  /** The text of a map, and whether its signs and lines are well formed. */
  private static final class MapText {
    private final int[] signs = new int[MOST_SIGNS];
    private int length;
    private int width;
    private int lines;
    private int column;
    private int faultPlace;

    int length() {
      return length;
    }

    int width() {
      return width;
    }

    int faultPlace() {
      return faultPlace;
    }

    int append(long w) {
      int more = 0;
      while (more < 8 && byteOf(w, more) != 0) {
        more++;
      }
      if (length + more > MOST_SIGNS) {
        return FULL;
      }
      for (int i = 0; i < more; i++) {
        signs[length + i] = byteOf(w, i);
      }
      length += more;
      return length;
    }

    int wipe() {
      int had = length;
      length = 0;
      return had;
    }

    int kindOf(int i) {
      switch (signs[i]) {
        case '#': return WALL;
        case '.': return FLOOR;
        case 's': return SHELF;
        case 't': return STATION;
        case 'p': return PARKING;
        case '/': return LINE_END;
        default: return NONE;
      }
    }

    // One pass finds the fault with the least place, because every SHAPE fault shows at the very
    // sign (or end) where it is told.
    int findFault() {
      lines = 0;
      column = 0;
      for (int i = 0; i < length; i++) {
        int kind = kindOf(i);
        if (kind == NONE) {
          faultPlace = i;
          return SIGN;
        }
        boolean fits = kind == LINE_END ? endLine() && lines < MOST_LINES : widenLine();
        if (!fits) {
          faultPlace = i;
          return SHAPE;
        }
      }
      faultPlace = length;
      return endLine() ? 0 : SHAPE;
    }

    private boolean widenLine() {
      column++;
      return column <= (lines == 0 ? MOST_COLUMNS : width);
    }

    private boolean endLine() {
      if (column == 0 || (lines > 0 && column < width)) {
        return false;
      }
      width = column;
      column = 0;
      lines++;
      return true;
    }

    private static int byteOf(long w, int i) {
      return (int) (w >>> (8 * i)) & 255;
    }
  }

  /** The cells of a map, the moves between them, and the distances from one cell. */
  private static final class Grid {
    // By move: how far on in the numbers of cells it leads.
    final int[] steps = new int[MOVES];
    // By move two longs: the cells from which it can be made, 0 .. 63 and 64 .. 79.
    final long[] open = new long[2 * MOVES];
    private final int[] kinds = new int[MOST_CELLS];
    private final int[] far = new int[MOST_CELLS];
    private final int[] queue = new int[MOST_CELLS];
    private int size;
    private int width;

    int size() {
      return size;
    }

    boolean has(int c) {
      return c >= 0 && c < size;
    }

    int kindAt(int c) {
      return has(c) ? kinds[c] : NONE;
    }

    boolean isPlace(int c) {
      return kinds[c] > FLOOR;
    }

    int measured(int c) {
      return far[c];
    }

    int placeInText(int c) {
      return c + c / Math.max(width, 1);
    }

    void load(MapText text) {
      size = 0;
      width = text.width();
      for (int i = 0; i < text.length() && size < MOST_CELLS; i++) {
        int kind = text.kindOf(i);
        if (kind != LINE_END) {
          kinds[size] = kind;
          size++;
        }
      }
      steps[0] = 0;
      steps[1] = -width;
      steps[2] = 1;
      steps[3] = width;
      steps[4] = -1;
      findOpenMoves();
    }

    private void findOpenMoves() {
      Arrays.fill(open, 0L);
      for (int c = 0; c < size; c++) {
        for (int move = 0; move < MOVES; move++) {
          if (leadsOn(c, move)) {
            open[2 * move + (c >> 6)] |= 1L << c;
          }
        }
      }
    }

    private boolean leadsOn(int c, int move) {
      int column = c % Math.max(width, 1);
      if (kinds[c] == WALL || (move == 2 && column == width - 1) || (move == 4 && column == 0)) {
        return false;
      }
      return kindAt(c + steps[move]) > WALL;
    }

    boolean isOpen(int c, int move) {
      return (open[2 * move + (c >> 6)] >>> c & 1L) != 0;
    }

    boolean isWithinAMove(int from, int to) {
      int across = Math.max(width, 1);
      return Math.abs(from / across - to / across) + Math.abs(from % across - to % across) <= 1;
    }

    boolean hasAllKinds() {
      int seen = 0;
      for (int c = 0; c < size; c++) {
        seen |= 1 << kinds[c];
      }
      int needed = 1 << SHELF | 1 << STATION | 1 << PARKING;
      return (seen & needed) == needed;
    }

    // The least place that lacks a way to any other is the lesser one of the first such two, because
    // the ways go both ways.
    int firstPlaceApart() {
      for (int c = 0; c < size; c++) {
        if (isPlace(c) && !isJoinedToAll(c)) {
          return c;
        }
      }
      return NONE;
    }

    private boolean isJoinedToAll(int place) {
      measureFrom(place, false);
      for (int c = 0; c < size; c++) {
        if (isPlace(c) && far[c] == NONE) {
          return false;
        }
      }
      return true;
    }

    void measureFrom(int source, boolean throughPlaces) {
      Arrays.fill(far, NONE);
      if (kinds[source] == WALL) {
        return;
      }
      far[source] = 0;
      queue[0] = source;
      int found = 1;
      for (int i = 0; i < found && i < size; i++) {
        int c = queue[i];
        if (throughPlaces || c == source || !isPlace(c)) {
          found = measureAround(c, found);
        }
      }
    }

    private int measureAround(int c, int found) {
      int total = found;
      for (int move = 1; move < MOVES; move++) {
        if (isOpen(c, move) && far[c + steps[move]] == NONE) {
          far[c + steps[move]] = far[c] + 1;
          queue[total] = c + steps[move];
          total++;
        }
      }
      return total;
    }
  }

  private static final class Task {
    int order;
    int shelf;
    int station;
    int state;
    int robot;
    int timeTold;
    int timeTaken;
    int timePicked;
    int timeBrought;

    void begin(int ofOrder, int fromShelf, int toStation, int time) {
      order = ofOrder;
      shelf = fromShelf;
      station = toStation;
      state = PENDING;
      robot = NONE;
      timeTold = time;
      timeTaken = NONE;
      timePicked = NONE;
      timeBrought = NONE;
    }

    int tell(int what) {
      switch (what) {
        case 0: return order;
        case 1: return shelf;
        case 2: return station;
        case 3: return state;
        case 4: return robot;
        case 5: return timeTold;
        case 6: return timeTaken;
        case 7: return timePicked;
        case 8: return timeBrought;
        default: return BAD;
      }
    }
  }

  private static final class Order {
    int station;
    int tasks;
    int firstTask;
    int unfinished;
    int timeTold;
    int timeClosed;

    void begin(int toStation, int wanted, int first, int time) {
      station = toStation;
      tasks = wanted;
      firstTask = first;
      unfinished = wanted;
      timeTold = time;
      timeClosed = NONE;
    }

    int tell(int what) {
      switch (what) {
        case 0: return station;
        case 1: return tasks;
        case 2: return firstTask;
        case 3: return unfinished > 0 ? 1 : 0;
        case 4: return timeTold;
        case 5: return timeClosed;
        default: return BAD;
      }
    }
  }

  /** All orders and their tasks. */
  private static final class Orders {
    private final Order[] orders = new Order[MOST_ORDERS];
    private final Task[] tasks = new Task[MOST_TASKS];
    // By cell, so that neither a fit place nor the wish to leave a station needs a look at all tasks.
    private final int[] pendingFor = new int[MOST_CELLS];
    private int orderCount;
    private int taskCount;
    private int openCount;
    private int pendingCount;

    Orders() {
      for (int i = 0; i < MOST_ORDERS; i++) {
        orders[i] = new Order();
      }
      for (int i = 0; i < MOST_TASKS; i++) {
        tasks[i] = new Task();
      }
    }

    int size() {
      return orderCount;
    }

    int open() {
      return openCount;
    }

    int tasks() {
      return taskCount;
    }

    int pending() {
      return pendingCount;
    }

    boolean arePendingFor(int station) {
      return pendingFor[station] > 0;
    }

    Task taskAt(int i) {
      return tasks[i];
    }

    void clear() {
      Arrays.fill(pendingFor, 0);
      orderCount = 0;
      taskCount = 0;
      openCount = 0;
      pendingCount = 0;
    }

    boolean haveRoomFor(int wanted) {
      return orderCount < MOST_ORDERS && taskCount + wanted <= MOST_TASKS;
    }

    int add(int station, int wanted, int time) {
      orders[orderCount].begin(station, wanted, taskCount, time);
      openCount++;
      orderCount++;
      return orderCount - 1;
    }

    void addTask(int number, int shelf) {
      Order order = orders[number];
      tasks[taskCount].begin(number, shelf, order.station, order.timeTold);
      taskCount++;
      pendingCount++;
      pendingFor[order.station]++;
    }

    int cancelPending(int number, int time) {
      if (number < 0 || number >= orderCount) {
        return BAD;
      }
      Order order = orders[number];
      int dropped = 0;
      for (int i = 0; i < order.tasks; i++) {
        Task task = tasks[order.firstTask + i];
        if (task.state == PENDING) {
          leavePending(task, OUT);
          finishOne(order, time);
          dropped++;
        }
      }
      return dropped;
    }

    void take(Task task, int robot, int time) {
      leavePending(task, TAKEN);
      task.robot = robot;
      task.timeTaken = time;
    }

    void pick(Task task, int time) {
      task.state = PICKED;
      task.timePicked = time;
    }

    void bring(Task task, int time) {
      task.state = BROUGHT;
      task.timeBrought = time;
      finishOne(orders[task.order], time);
    }

    private void leavePending(Task task, int state) {
      task.state = state;
      pendingCount--;
      pendingFor[task.station]--;
    }

    private void finishOne(Order order, int time) {
      order.unfinished--;
      if (order.unfinished == 0) {
        order.timeClosed = time;
        openCount--;
      }
    }

    int tellTask(int i, int what) {
      return i < 0 || i >= taskCount ? NONE : tasks[i].tell(what);
    }

    int tellOrder(int i, int what) {
      return i < 0 || i >= orderCount ? NONE : orders[i].tell(what);
    }
  }

  private static final class Robot {
    int task;
    int moves;
    int brought;
    int timesOff;

    void begin() {
      task = NONE;
      moves = 0;
      brought = 0;
      timesOff = 0;
    }
  }

  /** Where each robot was, is and will be by its path. */
  private static final class Timetable {
    // One long a time, eight bits of it a robot: a row for each robot would cost six times the room.
    private final long[] rows = new long[LAST_TIME + LONGEST_WAY + 1];
    private final int[] ends = new int[MOST_ROBOTS];
    private final int[] endTimes = new int[MOST_ROBOTS];
    private final int[] owners = new int[MOST_CELLS];
    private int robots;

    int robots() {
      return robots;
    }

    int endOf(int robot) {
      return ends[robot];
    }

    int endTimeOf(int robot) {
      return endTimes[robot];
    }

    /** The robot whose end a cell is, or NONE: no two robots ever have one end. */
    int ownerOf(int c) {
      return owners[c];
    }

    boolean isEndOfOther(int c, int robot) {
      return owners[c] != NONE && owners[c] != robot;
    }

    void clear() {
      Arrays.fill(owners, NONE);
      robots = 0;
    }

    void add(int c) {
      ends[robots] = c;
      endTimes[robots] = 0;
      owners[c] = robots;
      write(robots, 0, c);
      robots++;
    }

    int cellAt(int robot, int time) {
      return time >= endTimes[robot] ? ends[robot] : (int) (rows[time] >>> (8 * robot)) & 255;
    }

    void write(int robot, int time, int c) {
      int shift = 8 * robot;
      rows[time] = rows[time] & ~(255L << shift) | (long) c << shift;
    }

    void setEnd(int robot, int time, int c) {
      owners[ends[robot]] = NONE;
      owners[c] = robot;
      ends[robot] = c;
      endTimes[robot] = time;
    }

    // Behind a path's end its rows hold nothing of the robot; they must, before a new path comes.
    void keep(int robot, int time) {
      write(robot, time, cellAt(robot, time));
    }
  }

  /**
   * The search for a way: first the sets of cells that can be reached, tick after tick, up to the
   * first tick that will do as the last one; then, backwards, what of them leads there; then the
   * least moves through what is left.
   */
  private static final class WaySearch {
    private final Timetable table;
    // For each tick four longs: the cells reached without the shelf (two longs), and with it (two).
    private final long[] reached = new long[4 * (LONGEST_WAY + 1)];
    private final long[] allowed = new long[2 * MOVES];
    private long takenLow;
    private long takenHigh;
    private Grid map;
    private int robot;
    private int start;
    private int shelf;
    private int goal;

    WaySearch(Grid first, Timetable ofAll) {
      map = first;
      table = ofAll;
    }

    void begin(Grid fresh) {
      map = fresh;
    }

    /** Writes the way into the timetable and tells its ticks, or NONE; shelf is NONE without a task. */
    int find(int forRobot, int time, int viaShelf, int toGoal) {
      robot = forRobot;
      start = time;
      shelf = viaShelf;
      goal = toGoal;
      int from = table.cellAt(robot, start);
      int side = shelf == NONE || shelf == from ? 1 : 0;
      empty(0);
      add(2 * side, from);
      int length = reachGoal();
      if (length == NONE) {
        return NONE;
      }
      empty(length);
      add(4 * length + 2, goal);
      for (int k = length - 1; k > 0; k--) {
        lookAtOthers(k);
        narrow(k);
      }
      follow(from, side, length);
      return length;
    }

    private int reachGoal() {
      int clear = ticksUntilGoalIsClear();
      for (int k = 0; k < LONGEST_WAY; k++) {
        if (k >= clear && holds(4 * k + 2, goal)) {
          return k;
        }
        lookAtOthers(k);
        spread(k);
      }
      return NONE;
    }

    private int ticksUntilGoalIsClear() {
      int clear = 0;
      for (int other = 0; other < table.robots(); other++) {
        for (int time = table.endTimeOf(other) - 1; other != robot && time >= start + clear; time--) {
          if (table.cellAt(other, time) == goal) {
            clear = time + 1 - start;
          }
        }
      }
      return clear;
    }

    private void lookAtOthers(int k) {
      System.arraycopy(map.open, 0, allowed, 0, 2 * MOVES);
      takenLow = 0;
      takenHigh = 0;
      for (int other = 0; other < table.robots(); other++) {
        if (other != robot) {
          avoid(table.cellAt(other, start + k), table.cellAt(other, start + k + 1));
        }
      }
    }

    private void avoid(int before, int after) {
      long bit = 1L << after;
      if (after < 64) {
        takenLow |= bit;
      } else {
        takenHigh |= bit;
      }
      for (int move = 1; move < MOVES; move++) {
        if (after + map.steps[move] == before) {
          allowed[2 * move + (after >> 6)] &= ~bit;
        }
      }
    }

    private void spread(int k) {
      for (int side = 0; side < 2; side++) {
        int at = 4 * k + 2 * side;
        long low = reached[at];
        long high = reached[at + 1];
        for (int move = 1; move < MOVES; move++) {
          long fromLow = reached[at] & allowed[2 * move];
          long fromHigh = reached[at + 1] & allowed[2 * move + 1];
          low |= shiftedLow(fromLow, fromHigh, map.steps[move]);
          high |= shiftedHigh(fromLow, fromHigh, map.steps[move]);
        }
        reached[at + 4] = low & ~takenLow;
        reached[at + 5] = high & ~takenHigh;
      }
      if (shelf != NONE && holds(4 * k + 4, shelf)) {
        reached[4 * k + 4 + (shelf >> 6)] &= ~(1L << shelf);
        add(4 * k + 6, shelf);
      }
    }

    private void narrow(int k) {
      for (int side = 0; side < 2; side++) {
        int at = 4 * k + 2 * side;
        long toLow = reached[at + 4];
        long toHigh = reached[at + 5];
        if (side == 0 && shelf != NONE) {
          long entered = reached[4 * k + 6 + (shelf >> 6)] & 1L << shelf;
          toLow |= shelf < 64 ? entered : 0;
          toHigh |= shelf < 64 ? 0 : entered;
        }
        long low = toLow;
        long high = toHigh;
        for (int move = 1; move < MOVES; move++) {
          low |= shiftedLow(toLow, toHigh, -map.steps[move]) & allowed[2 * move];
          high |= shiftedHigh(toLow, toHigh, -map.steps[move]) & allowed[2 * move + 1];
        }
        reached[at] &= low;
        reached[at + 1] &= high;
      }
    }

    private void follow(int from, int fromSide, int length) {
      int c = from;
      int side = fromSide;
      for (int k = 0; k < length; k++) {
        lookAtOthers(k);
        c += map.steps[leastMove(c, side, k)];
        side = c == shelf ? 1 : side;
        table.write(robot, start + k + 1, c);
      }
      table.setEnd(robot, start + length, goal);
    }

    private int leastMove(int c, int side, int k) {
      for (int move = 0; move < MOVES; move++) {
        int to = c + map.steps[move];
        boolean may = (allowed[2 * move + (c >> 6)] >>> c & 1L) != 0;
        int sideThen = to == shelf ? 1 : side;
        if (may && holds(4 * k + 4 + 2 * sideThen, to)) {
          return move;
        }
      }
      return 0;
    }

    private void empty(int k) {
      for (int i = 0; i < 4; i++) {
        reached[4 * k + i] = 0;
      }
    }

    private void add(int at, int c) {
      reached[at + (c >> 6)] |= 1L << c;
    }

    private boolean holds(int at, int c) {
      return (reached[at + (c >> 6)] >>> c & 1L) != 0;
    }

    private static long shiftedLow(long low, long high, int by) {
      return by > 0 ? low << by : low >>> -by | high << (64 + by);
    }

    private static long shiftedHigh(long low, long high, int by) {
      return by > 0 ? high << by | low >>> (64 - by) : high >>> -by;
    }
  }

  /** Looks at each tick by itself, so that a fault of the search would be counted and not hidden. */
  private static final class Monitor {
    private int alarms;

    int alarms() {
      return alarms;
    }

    void clear() {
      alarms = 0;
    }

    void look(Grid map, Timetable table, int time) {
      for (int r = 0; r < table.robots(); r++) {
        int before = table.cellAt(r, time - 1);
        int after = table.cellAt(r, time);
        if (map.kindAt(after) == WALL) {
          alarms++;
        }
        if (!map.isWithinAMove(before, after)) {
          alarms++;
        }
        for (int q = 0; q < r; q++) {
          lookAtTwo(before, after, table.cellAt(q, time - 1), table.cellAt(q, time));
        }
      }
    }

    private void lookAtTwo(int before, int after, int otherBefore, int otherAfter) {
      if (after == otherAfter) {
        alarms++;
      }
      if (after != before && after == otherBefore && before == otherAfter) {
        alarms++;
      }
    }
  }

  /** The robots, and what they do tick by tick. */
  private static final class Fleet {
    private final Orders orders;
    private final Robot[] robots = new Robot[MOST_ROBOTS];
    private final Timetable table = new Timetable();
    private final Monitor monitor = new Monitor();
    private final WaySearch search;
    private Grid map;
    private int size;
    private int now;
    private int ways;
    private int longestWay;

    Fleet(Grid first, Orders ofAll) {
      map = first;
      orders = ofAll;
      search = new WaySearch(first, table);
      for (int r = 0; r < MOST_ROBOTS; r++) {
        robots[r] = new Robot();
      }
    }

    int size() {
      return size;
    }

    int now() {
      return now;
    }

    int ways() {
      return ways;
    }

    int longestWay() {
      return longestWay;
    }

    int alarms() {
      return monitor.alarms();
    }

    int moves() {
      int sum = 0;
      for (int r = 0; r < size; r++) {
        sum += robots[r].moves;
      }
      return sum;
    }

    void begin(Grid fresh) {
      map = fresh;
      search.begin(fresh);
      table.clear();
      monitor.clear();
      size = 0;
      now = 0;
      ways = 0;
      longestWay = 0;
    }

    int put(int c) {
      if (size == MOST_ROBOTS) {
        return FULL;
      }
      if (table.ownerOf(c) != NONE) {
        return NONE;
      }
      robots[size].begin();
      table.add(c);
      size++;
      return size - 1;
    }

    void step() {
      for (int r = 0; r < size; r++) {
        if (orders.pending() > 0 && table.endTimeOf(r) <= now) {
          lookForWork(r);
        }
      }
      now++;
      for (int r = 0; r < size; r++) {
        goOn(r);
      }
      monitor.look(map, table, now);
    }

    private void lookForWork(int r) {
      int c = table.cellAt(r, now);
      int number = nearestFit(r, c);
      if (number != NONE) {
        Task task = orders.taskAt(number);
        if (countWay(search.find(r, now, task.shelf, task.station))) {
          take(r, c, number);
        }
      } else if (orders.arePendingFor(c)) {
        int to = nearestRefuge(r, c);
        if (to != NONE && countWay(search.find(r, now, NONE, to))) {
          robots[r].timesOff++;
        }
      }
    }

    private int nearestFit(int r, int c) {
      int best = NONE;
      int least = 0;
      for (int i = 0; i < orders.tasks(); i++) {
        if (isFit(orders.taskAt(i), r)) {
          if (best == NONE) {
            map.measureFrom(c, true);
          }
          int far = map.measured(orders.taskAt(i).shelf);
          if (best == NONE || far < least) {
            best = i;
            least = far;
          }
        }
      }
      return best;
    }

    private boolean isFit(Task task, int r) {
      return task.state == PENDING
          && !table.isEndOfOther(task.shelf, r)
          && !table.isEndOfOther(task.station, r);
    }

    private int nearestRefuge(int r, int c) {
      map.measureFrom(c, true);
      int best = NONE;
      for (int to = 0; to < map.size(); to++) {
        boolean may = map.isPlace(to) && !orders.arePendingFor(to) && !table.isEndOfOther(to, r);
        if (may && (best == NONE || map.measured(to) < map.measured(best))) {
          best = to;
        }
      }
      return best;
    }

    private boolean countWay(int ticks) {
      if (ticks == NONE) {
        return false;
      }
      ways++;
      longestWay = Math.max(longestWay, ticks);
      return true;
    }

    private void take(int r, int c, int number) {
      Task task = orders.taskAt(number);
      robots[r].task = number;
      orders.take(task, r, now);
      if (c == task.shelf) {
        orders.pick(task, now);
      }
    }

    private void goOn(int r) {
      int before = table.cellAt(r, now - 1);
      int after = table.cellAt(r, now);
      table.keep(r, now);
      if (after != before) {
        robots[r].moves++;
      }
      if (robots[r].task != NONE) {
        workOn(r, after, orders.taskAt(robots[r].task));
      }
    }

    private void workOn(int r, int c, Task task) {
      if (task.state == TAKEN && c == task.shelf) {
        orders.pick(task, now);
      }
      if (task.state == PICKED && table.endTimeOf(r) <= now) {
        orders.bring(task, now);
        robots[r].task = NONE;
        robots[r].brought++;
      }
    }

    int tellRobot(int r, int what) {
      if (r < 0 || r >= size) {
        return NONE;
      }
      switch (what) {
        case 0: return table.cellAt(r, now);
        case 1: return robots[r].task;
        case 2: return hasPicked(robots[r].task) ? 1 : 0;
        case 3: return table.endOf(r);
        case 4: return Math.max(0, table.endTimeOf(r) - now);
        case 5: return robots[r].moves;
        case 6: return robots[r].brought;
        case 7: return robots[r].timesOff;
        default: return BAD;
      }
    }

    private boolean hasPicked(int number) {
      return number != NONE && orders.taskAt(number).state == PICKED;
    }

    int cellIn(int r, int k) {
      if (r < 0 || r >= size || k < 0) {
        return NONE;
      }
      // A large k would overflow as a time, and lies behind every path's end.
      return table.cellAt(r, now + Math.min(k, LONGEST_WAY));
    }

    int cellAt(int r, int time) {
      return r < 0 || r >= size || time < 0 || time > now ? NONE : table.cellAt(r, time);
    }
  }
}
