import java.lang.reflect.Constructor;
import java.lang.reflect.Field;
import java.lang.reflect.Method;
import java.lang.reflect.Modifier;
import java.util.Arrays;
import java.util.Set;
import java.util.TreeSet;

/** The public face: exactly the constants, the constructor and the methods of the document. */
public final class FaceTest {
  private static final String[] METHODS = {
    "type(long)", "erase()", "read()", "place()", "cell(int)", "distance(int,int)", "robot(int)",
    "order(int,int,int,int)", "cancel(int)", "tick(int)", "settle(int)", "robotOf(int,int)",
    "ahead(int,int)", "was(int,int)", "task(int,int)", "orderOf(int,int)", "count(int)",
  };

  public static void main(String[] args) throws IllegalAccessException {
    Check.due("public and final", FleetController.class.getModifiers(), Modifier.PUBLIC | Modifier.FINAL);
    constants();
    constructor();
    methods();
    for (Class<?> inside : FleetController.class.getDeclaredClasses()) {
      int modifiers = inside.getModifiers();
      Check.due(inside + " is static", Modifier.isStatic(modifiers) ? 1 : 0, 1);
      Check.due(inside + " is public", Modifier.isPublic(modifiers) ? 1 : 0, 0);
    }
    Check.end();
  }

  private static void constants() throws IllegalAccessException {
    String[] names = {"NONE", "BAD", "FULL", "NOT", "SIGN", "SHAPE", "KIND", "JOINED"};
    int[] values = {-1, -2, -3, -4, -11, -12, -13, -14};
    int seen = 0;
    for (Field field : FleetController.class.getDeclaredFields()) {
      int at = Arrays.asList(names).indexOf(field.getName());
      if (at >= 0) {
        int due = Modifier.PUBLIC | Modifier.STATIC | Modifier.FINAL;
        Check.due(field + " modifiers", field.getModifiers(), due);
        Check.due(field.getName(), field.getInt(null), values[at]);
        seen++;
      } else {
        Check.due(field + " is private", Modifier.isPrivate(field.getModifiers()) ? 1 : 0, 1);
      }
      boolean changes = Modifier.isStatic(field.getModifiers()) && !Modifier.isFinal(field.getModifiers());
      Check.due(field + " is static and changes", changes ? 1 : 0, 0);
    }
    Check.due("constants", seen, names.length);
  }

  private static void constructor() {
    Constructor<?>[] all = FleetController.class.getDeclaredConstructors();
    Check.due("constructors", all.length, 1);
    Check.due("its modifiers", all[0].getModifiers(), Modifier.PUBLIC);
    Check.due("its parameters", all[0].getParameterCount(), 0);
  }

  private static void methods() {
    Set<String> due = new TreeSet<>(Arrays.asList(METHODS));
    for (Method method : FleetController.class.getDeclaredMethods()) {
      StringBuilder form = new StringBuilder(method.getName()).append('(');
      for (Class<?> type : method.getParameterTypes()) {
        form.append(form.charAt(form.length() - 1) == '(' ? "" : ",").append(type.getName());
      }
      boolean known = due.remove(form.append(')').toString());
      Check.due(form + " modifiers", method.getModifiers() & ~Modifier.STATIC,
          known ? Modifier.PUBLIC : Modifier.PRIVATE);
      Check.due(form + " answers an int", known && method.getReturnType() != int.class ? 1 : 0, 0);
    }
    Check.due("missing: " + due, due.size(), 0);
  }
}
