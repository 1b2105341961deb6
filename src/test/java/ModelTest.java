import java.util.Random;

/** All promises: many runs, the same ones each time, on which program and model must agree. */
public final class ModelTest {
  // Narrow ways, where robots must wait for one another; the last ones beyond cell 64 too.
  private static final String[] CORRIDORS = {
    "...../p.s.t/.....",
    "p#s##t/....../t##s#p",
    "p#s#t#p#s#/........../#t#p#s#p#t",
    "p#p#p#s#t#/........../p#p#p#s#t#",
    "p.p.p.p/......./p.s.t.s/......./t.s.p.t",
    "##p####/##.####/p.....s/##.####/t.....p/##.####/##s####",
    "##########/##########/##########/##########/##########/p#s#t#p#s#/........../#t#p#s#p#t",
    "p.########/..########/s.########/..########/t.########/..p#s#p#p#/........../t#s#t#p#p#",
    "##########/#p#s#t#p##/........../.#s#p###t./.########./.#t#s#p##./........../#s#p#t#p##",
    "s#p#p#p#p#/........../#########./........../.#########/........../#t#s####t./t.........",
  };

  private final Random random;
  private final FleetController x = new FleetController();
  private final FleetModel model = new FleetModel();

  private ModelTest(long seed) {
    random = new Random(seed);
  }

  public static void main(String[] args) {
    int runs = args.length > 0 ? Integer.parseInt(args[0]) : 400;
    for (int i = 0; i < runs && !Check.anyWrong(); i++) {
      new ModelTest(i).run(i);
    }
    Check.end();
  }

  private void run(int number) {
    for (int maps = 0; maps < 6 && !Check.anyWrong(); maps++) {
      String name = "run " + number + ", map " + maps + ": ";
      String text = number % 3 == 0 ? CORRIDORS[random.nextInt(CORRIDORS.length)] : randomMap();
      due(name + "erase()", x.erase(), model.erase());
      for (int i = 0; i < text.length(); i += 8) {
        long w = Check.packed(text, i);
        due(name + "type(" + w + ")", x.type(w), model.type(w));
      }
      int cells = model.read();
      due(name + "read() of " + text, x.read(), cells);
      due(name + "place() in " + text, x.place(), model.place());
      work(name + text + " ");
    }
  }

  private static void due(String call, int got, int want) {
    Check.due(call, got, want);
  }

  private String randomMap() {
    int width = 2 + random.nextInt(9);
    int height = 1 + random.nextInt(8);
    int walls = random.nextInt(30);
    int places = 4 + random.nextInt(20);
    StringBuilder text = new StringBuilder();
    for (int line = 0; line < height; line++) {
      text.append(line == 0 ? "" : "/");
      for (int column = 0; column < width; column++) {
        int roll = random.nextInt(100);
        text.append(roll < walls ? '#' : roll < walls + places ? "stp".charAt(random.nextInt(3)) : '.');
      }
    }
    spoil(text);
    return text.toString();
  }

  private void spoil(StringBuilder text) {
    if (random.nextInt(8) != 0) {
      return;
    }
    int at = random.nextInt(text.length());
    switch (random.nextInt(4)) {
      case 0: text.setCharAt(at, (char) (1 + random.nextInt(255))); break;
      case 1: text.deleteCharAt(at); break;
      case 2: text.insert(at, "#.stp/".charAt(random.nextInt(6))); break;
      default: text.insert(at, '/'); break;
    }
  }

  private void work(String name) {
    compareMap(name);
    int crowd = random.nextInt(8);
    for (int i = 0; i < 80 && crowd > 0; i++) {
      int c = random.nextInt(82) - 1;
      due(name + "robot(" + c + ")", x.robot(c), model.robot(c));
      crowd -= model.cell(c) == 4 ? 1 : 0;
    }
    int calls = random.nextInt(30);
    for (int i = 0; i < calls && !Check.anyWrong(); i++) {
      call(name);
      compareAll(name + "call " + i + " ");
    }
  }

  private void call(String name) {
    int n = random.nextInt(25) == 0 ? random.nextInt(300) - 20 : 1 + random.nextInt(12);
    switch (random.nextInt(6)) {
      case 0: due(name + "tick(" + n + ")", x.tick(n), model.tick(n)); break;
      case 1: due(name + "settle(" + n + ")", x.settle(n), model.settle(n)); break;
      case 2:
        int order = random.nextInt(model.count(2) + 3) - 1;
        if (random.nextInt(3) == 0) {
          due(name + "cancel(" + order + ")", x.cancel(order), model.cancel(order));
        }
        break;
      default:
        for (int i = random.nextInt(4); i >= 0; i--) {
          tellOrder(name);
        }
        break;
    }
  }

  private void tellOrder(String name) {
    int station = some(3);
    int a = some(2);
    int b = random.nextInt(2) == 0 ? -1 : some(2);
    int c = random.nextInt(2) == 0 && (b != -1 || random.nextInt(8) == 0) ? some(2) : -1;
    String call = name + "order(" + station + ", " + a + ", " + b + ", " + c + ")";
    due(call, x.order(station, a, b, c), model.order(station, a, b, c));
  }

  /** Mostly a cell of a kind. */
  private int some(int kind) {
    int c = random.nextInt(82) - 1;
    for (int i = 0; i < 400 && model.cell(c) != kind; i++) {
      c = random.nextInt(82) - 1;
    }
    return random.nextInt(30) == 0 ? random.nextInt(82) - 1 : c;
  }

  private void compareMap(String name) {
    for (int c = -1; c <= 80; c++) {
      due(name + "cell(" + c + ")", x.cell(c), model.cell(c));
      int d = random.nextInt(82) - 1;
      due(name + "distance(" + c + ", " + d + ")", x.distance(c, d), model.distance(c, d));
    }
  }

  private void compareAll(String name) {
    for (int what = -1; what <= 11; what++) {
      due(name + "count(" + what + ")", x.count(what), model.count(what));
    }
    for (int r = -1; r <= 6; r++) {
      for (int what = -1; what <= 8; what++) {
        due(name + "robotOf(" + r + ", " + what + ")", x.robotOf(r, what), model.robotOf(r, what));
      }
      for (int k = -1; k <= 60; k++) {
        due(name + "ahead(" + r + ", " + k + ")", x.ahead(r, k), model.ahead(r, k));
      }
      for (int time = -1; time <= model.count(6) + 1; time++) {
        due(name + "was(" + r + ", " + time + ")", x.was(r, time), model.was(r, time));
      }
    }
    for (int i = -1; i <= model.count(4); i++) {
      for (int what = -1; what <= 9; what++) {
        due(name + "task(" + i + ", " + what + ")", x.task(i, what), model.task(i, what));
      }
    }
    for (int i = -1; i <= model.count(2); i++) {
      for (int what = -1; what <= 6; what++) {
        due(name + "orderOf(" + i + ", " + what + ")", x.orderOf(i, what), model.orderOf(i, what));
      }
    }
  }
}
