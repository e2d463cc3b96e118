import java.lang.reflect.Constructor;
import java.lang.reflect.Field;
import java.lang.reflect.Method;
import java.lang.reflect.Modifier;
import java.util.Arrays;
import java.util.TreeSet;

/** The public face: the constants, the constructor, every method with what it throws, and nothing else. */
public final class FaceTest {
  private static final String[] METHODS = {
      "int feed(int, int, int, int, int) IllegalStateException", "void end(int) IllegalArgumentException", "int told(int)",
      "int place()", "int ask()", "int act()", "int find(int)", "long count(int)", "int ith(int, long)", "int different(int)",
      "int question(int)", "int cheaper()", "int sketch()", "int mend(int)", "int mended()", "int byteOf(int)", "int answer(int)",
      "int point(int, int)", "int value()", "int worked()", "int keep()", "int kept(int, int)", "int learn()", "int own(int, int)",
      "int loop()", "int runs(int, int)", "int span(int, int)", "int keeps()", "int example(int)", "int clear()", "int fit()",
      "long fitting(int)", "int part(int, int)", "int apply()", "int word(boolean)", "int forget()", "int machine()",
      "int state(int, int)", "int shortest(long, int)", "int step(int)", "long goal(long, int)", "int sync()", "int cut(int, int)",
      "int start()", "int octet(int, int) IndexOutOfBoundsException", "int poke(int, int, int) IndexOutOfBoundsException"};

  public static void main(String[] args) throws Exception {
    Class<?> face = FinderHouse.class;
    House.due("public and final", face.getModifiers(), Modifier.PUBLIC | Modifier.FINAL);
    constants(face);
    constructors(face);
    methods(face);
    for (Class<?> inside : face.getDeclaredClasses()) {
      House.due(inside.getName() + " is static", Modifier.isStatic(inside.getModifiers()) ? 1 : 0, 1);
      House.due(inside.getName() + " is private or package-visible", inside.getModifiers() & (Modifier.PUBLIC | Modifier.PROTECTED), 0);
    }
    House.finish();
  }

  private static void constants(Class<?> face) throws Exception {
    String[] names = {"NONE", "STATE", "ROOM", "LOST", "DOWN"};
    for (int i = 0; i < names.length; i++) {
      Field field = face.getField(names[i]);
      House.due(names[i], field.getInt(null), -1 - i);
      House.due(names[i] + " is a constant", field.getModifiers(), Modifier.PUBLIC | Modifier.STATIC | Modifier.FINAL);
      House.due(names[i] + " is an int", field.getType().getName(), "int");
    }
    for (Field field : face.getDeclaredFields()) {
      boolean told = Arrays.asList(names).contains(field.getName());
      House.due(field.getName() + " is private", told || Modifier.isPrivate(field.getModifiers()) ? 1 : 0, 1);
    }
  }

  private static void constructors(Class<?> face) {
    Constructor<?>[] all = face.getDeclaredConstructors();
    House.due("constructors", all.length, 1);
    House.due("the constructor is public", all[0].getModifiers(), Modifier.PUBLIC);
    House.due("it wants nothing", all[0].getParameterCount(), 0);
    House.due("it throws nothing", all[0].getExceptionTypes().length, 0);
  }

  private static void methods(Class<?> face) {
    TreeSet<String> there = new TreeSet<>();
    TreeSet<String> publicNames = new TreeSet<>();
    for (Method method : face.getDeclaredMethods()) {
      if (Modifier.isPublic(method.getModifiers())) {
        there.add(textOf(method));
        publicNames.add(method.getName());
        House.due(method.getName() + " is of an object", method.getModifiers(), Modifier.PUBLIC);
      }
    }
    for (String method : METHODS) {
      House.due(method, there.remove(method) ? 1 : 0, 1);
    }
    House.due("no other public method", there.toString(), "[]");
    for (Method method : face.getDeclaredMethods()) {
      if (!Modifier.isPublic(method.getModifiers()) && !method.isSynthetic()) {
        House.due(method.getName() + " is private", Modifier.isPrivate(method.getModifiers()) ? 1 : 0, 1);
        House.due(method.getName() + " bears no public name", publicNames.contains(method.getName()) ? 1 : 0, 0);
      }
    }
  }

  private static String textOf(Method method) {
    StringBuilder text = new StringBuilder(method.getReturnType().getName());
    text.append(' ').append(method.getName()).append('(');
    for (int i = 0; i < method.getParameterCount(); i++) {
      text.append(i > 0 ? ", " : "").append(method.getParameterTypes()[i].getName());
    }
    text.append(')');
    for (Class<?> thrown : method.getExceptionTypes()) {
      text.append(' ').append(thrown.getSimpleName());
    }
    return text.toString();
  }
}
