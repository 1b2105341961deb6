import java.util.ArrayDeque;
import java.util.ArrayList;
import java.util.Arrays;
import java.util.LinkedHashMap;
import java.util.List;
import java.util.Map;

/**
 * The document once more, by the plainest means and without any of the program's: what
 * FleetController answers is held against it.
 */
final class FleetModel {
  private static final int NONE = -1, BAD = -2, FULL = -3, NOT = -4;
  private static final int SIGN = -11, SHAPE = -12, KIND = -13, JOINED = -14;

  private static final class Robot {
    List<Integer> path = new ArrayList<>();
    int since;
    List<Integer> history = new ArrayList<>();
    int task = NONE, moves, brought, offs;

    int at(int time) {
      return path.get(Math.min(time - since, path.size() - 1));
    }

    int end() {
      return path.get(path.size() - 1);
    }

    int endTime() {
      return since + path.size() - 1;
    }
  }

  /** A cell that a way has come to, and whether it has been in the shelf. */
  private record Stand(int cell, boolean loaded) {
  }

  private record Trail(Stand stand, Trail before) {
  }

  private final StringBuilder text = new StringBuilder();
  private String[] lines = new String[0];
  private int place = NONE;
  private List<Robot> robots = new ArrayList<>();
  private List<int[]> tasks = new ArrayList<>();
  private List<int[]> orders = new ArrayList<>();
  private int time, alarms, ways, longest;

  int type(long w) {
    String more = "";
    for (long rest = w; more.length() < 8 && (rest & 255) != 0; rest >>>= 8) {
      more += (char) (rest & 255);
    }
    if (text.length() + more.length() > 90) {
      return FULL;
    }
    text.append(more);
    return text.length();
  }

  int erase() {
    int had = text.length();
    text.setLength(0);
    return had;
  }

  int read() {
    String all = text.toString();
    int sign = firstSign(all);
    int shape = firstShape(all);
    if (sign < Integer.MAX_VALUE && sign <= shape) {
      place = sign;
      return SIGN;
    }
    if (shape < Integer.MAX_VALUE) {
      place = shape;
      return SHAPE;
    }
    if (!all.contains("s") || !all.contains("t") || !all.contains("p")) {
      place = all.length();
      return KIND;
    }
    String[] old = lines;
    lines = all.split("/", -1);
    int apart = firstApart();
    if (apart != NONE) {
      place = apart / lines[0].length() * (lines[0].length() + 1) + apart % lines[0].length();
      lines = old;
      return JOINED;
    }
    place = NONE;
    robots = new ArrayList<>();
    tasks = new ArrayList<>();
    orders = new ArrayList<>();
    time = 0;
    alarms = 0;
    ways = 0;
    longest = 0;
    return cells();
  }

  private static int firstSign(String all) {
    for (int i = 0; i < all.length(); i++) {
      if ("#.stp/".indexOf(all.charAt(i)) < 0) {
        return i;
      }
    }
    return Integer.MAX_VALUE;
  }

  private static int firstShape(String all) {
    String[] parts = all.split("/", -1);
    int length = parts[0].length();
    int first = Integer.MAX_VALUE;
    int start = 0;
    for (int i = 0; i < parts.length; i++) {
      int own = parts[i].length();
      if (own == 0 || own < length) {
        first = Math.min(first, start + own);
      }
      if (own > length) {
        first = Math.min(first, start + length);
      }
      if (own > 10) {
        first = Math.min(first, start + 10);
      }
      if (i >= 8) {
        first = Math.min(first, start - 1);
      }
      start += own + 1;
    }
    return first;
  }

  private int firstApart() {
    for (int a = 0; a < cells(); a++) {
      for (int b = a + 1; b < cells(); b++) {
        if (isPlace(a) && isPlace(b) && far(a, b, false) == NONE) {
          return a;
        }
      }
    }
    return NONE;
  }

  private int cells() {
    return lines.length == 0 ? 0 : lines.length * lines[0].length();
  }

  private boolean isPlace(int c) {
    return cell(c) >= 2;
  }

  /** The cell to which a move leads, or NONE. */
  private int moved(int c, int move) {
    int width = lines[0].length();
    int row = c / width + (move == 1 ? -1 : move == 3 ? 1 : 0);
    int column = c % width + (move == 4 ? -1 : move == 2 ? 1 : 0);
    if (row < 0 || row >= lines.length || column < 0 || column >= width) {
      return NONE;
    }
    return lines[row].charAt(column) == '#' ? NONE : row * width + column;
  }

  private int far(int a, int b, boolean throughPlaces) {
    if (cell(a) == 0 || cell(b) == 0) {
      return NONE;
    }
    int[] far = new int[cells()];
    Arrays.fill(far, NONE);
    ArrayDeque<Integer> queue = new ArrayDeque<>();
    far[a] = 0;
    queue.add(a);
    while (!queue.isEmpty()) {
      int c = queue.remove();
      if (c != a && !throughPlaces && isPlace(c)) {
        continue;
      }
      for (int move = 1; move <= 4; move++) {
        int to = moved(c, move);
        if (to != NONE && far[to] == NONE) {
          far[to] = far[c] + 1;
          queue.add(to);
        }
      }
    }
    return far[b];
  }

  int place() {
    return place;
  }

  int cell(int c) {
    if (c < 0 || c >= cells()) {
      return NONE;
    }
    return "#.stp".indexOf(lines[c / lines[0].length()].charAt(c % lines[0].length()));
  }

  int distance(int a, int b) {
    return cell(a) == NONE || cell(b) == NONE ? BAD : far(a, b, true);
  }

  int robot(int c) {
    if (cells() == 0 || time != 0) {
      return NOT;
    }
    if (cell(c) != 4) {
      return BAD;
    }
    if (robots.size() == 6) {
      return FULL;
    }
    for (Robot r : robots) {
      if (r.at(0) == c) {
        return NONE;
      }
    }
    Robot robot = new Robot();
    robot.path.add(c);
    robot.history.add(c);
    robots.add(robot);
    return robots.size() - 1;
  }

  int order(int station, int a, int b, int c) {
    if (cells() == 0) {
      return NOT;
    }
    if (cell(station) != 3 || (b == NONE && c != NONE) || cell(a) != 2
        || (b != NONE && cell(b) != 2) || (c != NONE && cell(c) != 2)) {
      return BAD;
    }
    List<Integer> shelves = new ArrayList<>(List.of(a));
    if (b != NONE) {
      shelves.add(b);
    }
    if (c != NONE) {
      shelves.add(c);
    }
    if (orders.size() + 1 > 40 || tasks.size() + shelves.size() > 90) {
      return FULL;
    }
    int number = orders.size();
    orders.add(new int[] {station, shelves.size(), tasks.size(), 1, time, NONE});
    for (int shelf : shelves) {
      tasks.add(new int[] {number, shelf, station, 0, NONE, time, NONE, NONE, NONE});
    }
    return number;
  }

  private void lookAtOrders() {
    for (int number = 0; number < orders.size(); number++) {
      int[] order = orders.get(number);
      boolean open = false;
      for (int[] task : tasks) {
        open |= task[0] == number && task[3] <= 2;
      }
      if (order[3] == 1 && !open) {
        order[3] = 0;
        order[5] = time;
      }
    }
  }

  int cancel(int order) {
    if (order < 0 || order >= orders.size()) {
      return BAD;
    }
    int out = 0;
    for (int[] task : tasks) {
      if (task[0] == order && task[3] == 0) {
        task[3] = 4;
        out++;
      }
    }
    lookAtOrders();
    return out;
  }

  private int refusal(int n) {
    return robots.isEmpty() ? NOT : n < 1 || n > 200 ? BAD : time + n > 4000 ? FULL : 0;
  }

  int tick(int n) {
    if (refusal(n) != 0) {
      return refusal(n);
    }
    for (int i = 0; i < n; i++) {
      tickOnce();
    }
    return time;
  }

  int settle(int n) {
    if (refusal(n) != 0) {
      return refusal(n);
    }
    int ticks = 0;
    while (ticks < n && openOrders() > 0) {
      tickOnce();
      ticks++;
    }
    return ticks;
  }

  private int openOrders() {
    int open = 0;
    for (int[] order : orders) {
      open += order[3];
    }
    return open;
  }

  private boolean endOfOther(Robot robot, int c) {
    for (Robot other : robots) {
      if (other != robot && other.end() == c) {
        return true;
      }
    }
    return false;
  }

  private boolean pendingStation(int c) {
    for (int[] task : tasks) {
      if (task[3] == 0 && task[2] == c) {
        return true;
      }
    }
    return false;
  }

  private void tickOnce() {
    for (int r = 0; r < robots.size(); r++) {
      if (robots.get(r).endTime() <= time) {
        lookForWork(r, robots.get(r));
      }
    }
    int[] before = new int[robots.size()];
    for (int r = 0; r < robots.size(); r++) {
      before[r] = robots.get(r).at(time);
    }
    time++;
    for (int r = 0; r < robots.size(); r++) {
      goOn(robots.get(r), before[r]);
    }
    monitor(before);
    lookAtOrders();
  }

  private void lookForWork(int number, Robot robot) {
    int c = robot.at(time);
    int best = NONE;
    for (int i = 0; i < tasks.size(); i++) {
      int[] task = tasks.get(i);
      if (task[3] == 0 && !endOfOther(robot, task[1]) && !endOfOther(robot, task[2])
          && (best == NONE || far(c, task[1], true) < far(c, tasks.get(best)[1], true))) {
        best = i;
      }
    }
    if (best != NONE) {
      int[] task = tasks.get(best);
      task[3] = 1;
      task[4] = number;
      task[6] = time;
      robot.task = best;
      send(robot, way(robot, task[1], task[2]));
    } else if (pendingStation(c)) {
      int to = NONE;
      for (int p = 0; p < cells(); p++) {
        if (isPlace(p) && !pendingStation(p) && !endOfOther(robot, p)
            && (to == NONE || far(c, p, true) < far(c, to, true))) {
          to = p;
        }
      }
      robot.offs++;
      send(robot, way(robot, NONE, to));
    }
  }

  private void send(Robot robot, List<Integer> way) {
    ways++;
    longest = Math.max(longest, way.size() - 1);
    robot.path = way;
    robot.since = time;
  }

  // Trails are kept in the order of their moves, so the first one to a stand is the least.
  private List<Integer> way(Robot robot, int shelf, int goal) {
    int c = robot.at(time);
    Map<Stand, Trail> layer = new LinkedHashMap<>();
    Stand first = new Stand(c, shelf == NONE || c == shelf);
    layer.put(first, new Trail(first, null));
    for (int now = time; now < time + 2000; now++) {
      Trail there = layer.get(new Stand(goal, true));
      if (there != null && staysClear(robot, goal, now)) {
        return cellsOf(there);
      }
      Map<Stand, Trail> next = new LinkedHashMap<>();
      for (Trail trail : layer.values()) {
        for (int move = 0; move <= 4; move++) {
          int to = moved(trail.stand.cell, move);
          if (to != NONE && !meets(robot, trail.stand.cell, to, now)) {
            Stand stand = new Stand(to, trail.stand.loaded || to == shelf);
            next.putIfAbsent(stand, new Trail(stand, trail));
          }
        }
      }
      layer = next;
    }
    throw new IllegalStateException("there is no way");
  }

  private static List<Integer> cellsOf(Trail last) {
    List<Integer> cells = new ArrayList<>();
    for (Trail trail = last; trail != null; trail = trail.before) {
      cells.add(0, trail.stand.cell);
    }
    return cells;
  }

  private boolean staysClear(Robot robot, int goal, int from) {
    for (Robot other : robots) {
      for (int at = from; other != robot && at <= Math.max(from, other.endTime()); at++) {
        if (other.at(at) == goal) {
          return false;
        }
      }
    }
    return true;
  }

  private boolean meets(Robot robot, int from, int to, int now) {
    for (Robot other : robots) {
      if (other != robot
          && (other.at(now + 1) == to || (other.at(now) == to && other.at(now + 1) == from))) {
        return true;
      }
    }
    return false;
  }

  private void goOn(Robot robot, int before) {
    int c = robot.at(time);
    robot.history.add(c);
    robot.moves += c == before ? 0 : 1;
    if (robot.task == NONE) {
      return;
    }
    int[] task = tasks.get(robot.task);
    if (task[3] == 1 && before == task[1] && task[6] == time - 1) {
      task[3] = 2;
      task[7] = time - 1;
    }
    if (task[3] == 1 && c == task[1]) {
      task[3] = 2;
      task[7] = time;
    }
    if (task[3] == 2 && robot.endTime() == time) {
      task[3] = 3;
      task[8] = time;
      robot.task = NONE;
      robot.brought++;
    }
  }

  private void monitor(int[] before) {
    for (int r = 0; r < robots.size(); r++) {
      int c = robots.get(r).at(time);
      int width = lines[0].length();
      int lineSteps = Math.abs(c / width - before[r] / width);
      int columnSteps = Math.abs(c % width - before[r] % width);
      alarms += lineSteps + columnSteps > 1 ? 1 : 0;
      alarms += cell(c) == 0 ? 1 : 0;
      for (int q = 0; q < r; q++) {
        int d = robots.get(q).at(time);
        alarms += c == d ? 1 : 0;
        alarms += c != before[r] && c == before[q] && d == before[r] ? 1 : 0;
      }
    }
  }

  int robotOf(int r, int what) {
    if (r < 0 || r >= robots.size()) {
      return NONE;
    }
    Robot robot = robots.get(r);
    int picked = robot.task != NONE && tasks.get(robot.task)[3] == 2 ? 1 : 0;
    int[] told = {robot.at(time), robot.task, picked, robot.end(),
        Math.max(0, robot.endTime() - time), robot.moves, robot.brought, robot.offs};
    return what < 0 || what >= told.length ? BAD : told[what];
  }

  int ahead(int r, int k) {
    if (r < 0 || r >= robots.size() || k < 0) {
      return NONE;
    }
    return robots.get(r).at(k > 100000 ? 100000 : time + k);
  }

  int was(int r, int when) {
    if (r < 0 || r >= robots.size() || when < 0 || when > time) {
      return NONE;
    }
    return robots.get(r).history.get(when);
  }

  int task(int i, int what) {
    if (i < 0 || i >= tasks.size()) {
      return NONE;
    }
    return what < 0 || what > 8 ? BAD : tasks.get(i)[what];
  }

  int orderOf(int i, int what) {
    if (i < 0 || i >= orders.size()) {
      return NONE;
    }
    return what < 0 || what > 5 ? BAD : orders.get(i)[what];
  }

  int count(int what) {
    int pending = 0;
    for (int[] task : tasks) {
      pending += task[3] == 0 ? 1 : 0;
    }
    int moves = 0;
    for (Robot robot : robots) {
      moves += robot.moves;
    }
    int[] told = {cells(), robots.size(), orders.size(), openOrders(), tasks.size(), pending, time,
        alarms, ways, longest, moves};
    return what < 0 || what >= told.length ? BAD : told[what];
  }
}
