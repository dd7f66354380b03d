import java.lang.reflect.Constructor;
import java.lang.reflect.Field;
import java.lang.reflect.Method;
import java.lang.reflect.Modifier;
import java.util.List;
import java.util.TreeSet;

/** The public face: its members and no others. */
public final class FaceTest {
  private static final Checks CHECKS = new Checks("FaceTest");
  private static final String[] FACE = {"int account(int,int)", "long set(int,int,int)", "int gate(int,boolean)",
      "int told(int,int)", "long of(int,int)", "int count(int)", "long sum(int)", "int taken(int,int)",
      "int feed(int,int,int,int,int,int)", "int program()", "int run(int)", "int trace(int)", "long would(int,int)",
      "int needed(int,int)", "int hinges(int)", "int owe(int,int,int)", "int owed(int,int)", "int net()",
      "int tells(int,int,int,int)", "int film(int,int)", "int image()", "int back()", "int sheet(int,int,int)",
      "int put(int,int,int)", "int copy(int,int,int,int,int)", "int load(int,int,int,int)"};

  public static void main(String[] args) {
    constants();
    methods();
    fields();
    CHECKS.end();
  }

  private static void constants() {
    CHECKS.due("NONE", ClearingGates.NONE, -1);
    CHECKS.due("BAD", ClearingGates.BAD, -2);
    CHECKS.due("STATE", ClearingGates.STATE, -3);
    CHECKS.due("FULL", ClearingGates.FULL, -4);
    CHECKS.due("NO", ClearingGates.NO, Long.MIN_VALUE);
  }

  private static void methods() {
    CHECKS.due("public and final", Modifier.isPublic(ClearingGates.class.getModifiers())
        && Modifier.isFinal(ClearingGates.class.getModifiers()));
    TreeSet<String> want = new TreeSet<>(List.of(FACE));
    TreeSet<String> got = new TreeSet<>();
    TreeSet<String> names = new TreeSet<>();
    for (String method : FACE) {
      names.add(method.substring(method.indexOf(' ') + 1, method.indexOf('(')));
    }
    for (Method method : ClearingGates.class.getDeclaredMethods()) {
      if (Modifier.isPrivate(method.getModifiers())) {
        CHECKS.due("a private method named as a public one: " + method, !names.contains(method.getName()));
      } else if (!method.isSynthetic()) {
        got.add(told(method));
      }
    }
    for (Class<?> inside : ClearingGates.class.getDeclaredClasses()) {
      for (Method method : inside.getDeclaredMethods()) {
        CHECKS.due("inside, a method named as a public one: " + method, !names.contains(method.getName()));
      }
    }
    CHECKS.due("methods " + got, got.equals(want));
    Constructor<?>[] made = ClearingGates.class.getDeclaredConstructors();
    CHECKS.due("one constructor", made.length, 1);
    CHECKS.due("public, without arguments", Modifier.isPublic(made[0].getModifiers())
        && made[0].getParameterCount() == 0);
  }

  private static String told(Method method) {
    StringBuilder all = new StringBuilder(method.getReturnType() + " " + method.getName() + "(");
    for (Class<?> type : method.getParameterTypes()) {
      all.append(all.charAt(all.length() - 1) == '(' ? "" : ",").append(type);
    }
    return all.append(")").toString();
  }

  private static void fields() {
    TreeSet<String> open = new TreeSet<>();
    for (Field field : ClearingGates.class.getDeclaredFields()) {
      if (!Modifier.isPrivate(field.getModifiers()) && !field.isSynthetic()) {
        open.add(field.getName());
      }
      if (Modifier.isStatic(field.getModifiers())) {
        CHECKS.due("static fields are final: " + field.getName(), Modifier.isFinal(field.getModifiers()));
      }
    }
    TreeSet<String> constants = new TreeSet<>(List.of("NONE", "BAD", "STATE", "FULL", "NO"));
    CHECKS.due("open fields " + open, open.equals(constants));
    for (Class<?> inside : ClearingGates.class.getDeclaredClasses()) {
      CHECKS.due("static inside: " + inside, Modifier.isStatic(inside.getModifiers()));
    }
  }
}
