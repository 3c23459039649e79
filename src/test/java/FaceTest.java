import java.lang.reflect.Constructor;
import java.lang.reflect.Field;
import java.lang.reflect.Method;
import java.lang.reflect.Modifier;
import java.util.Set;
import java.util.TreeSet;

/** The document's face: every constant, constructor and method of it, and no other that can be seen. */
public final class FaceTest {
  private static final String[] METHODS = {
      "int ram(int,int,int,int)", "int set(int,int,int)", "int about(int,int)", "int work(int,int)", "int beat(int,int)",
      "int hourly(int,int)", "int spring(int,int)", "int tuned(int,int,int,int)", "int tune(int,int)", "int forget()",
      "int side(int,int)", "int take(int)", "int frost(int,int)", "int silence(int,int)", "int tank(int,int)",
      "int type(long,int)", "int clear()", "int rights()", "int right(int,int)", "int hours(int)", "long book(int)",
      "int read(int,int,int)", "int wipe()", "int tolerance(int,int)", "int fits(int,int)", "int ails(int,int)",
      "int sure(int,int)", "int count(int)", "long trace()"};

  private static String signature(Method m) {
    StringBuilder text = new StringBuilder(m.getReturnType().getName() + " " + m.getName() + "(");
    for (Class<?> type : m.getParameterTypes()) {
      text.append(text.charAt(text.length() - 1) == '(' ? "" : ",").append(type.getName());
    }
    return text.append(")").toString();
  }

  public static void main(String[] args) {
    Due due = new Due("FaceTest");
    due.is("BAD", RamBook.BAD, -1);
    due.is("STATE", RamBook.STATE, -2);
    due.is("FULL", RamBook.FULL, -3);
    due.is("NONE", RamBook.NONE, -9);
    int kind = RamBook.class.getModifiers();
    due.is("public and final", Modifier.isPublic(kind) && Modifier.isFinal(kind) ? 1 : 0, 1);
    Set<String> want = new TreeSet<>(Set.of(METHODS));
    Set<String> names = new TreeSet<>();
    for (Method m : RamBook.class.getDeclaredMethods()) {
      if (!Modifier.isPrivate(m.getModifiers()) && !m.isSynthetic()) {
        names.add(m.getName());
        boolean known = want.remove(signature(m)) && Modifier.isPublic(m.getModifiers());
        due.is("of the face: " + signature(m), known ? 1 : 0, 1);
      }
    }
    due.is("methods that lack: " + want, want.size(), 0);
    for (Method m : RamBook.class.getDeclaredMethods()) {
      boolean bears = Modifier.isPrivate(m.getModifiers()) && names.contains(m.getName());
      due.is("a private method with a public name: " + m.getName(), bears ? 1 : 0, 0);
    }
    int constants = 0;
    for (Field f : RamBook.class.getDeclaredFields()) {
      constants += Modifier.isPrivate(f.getModifiers()) ? 0 : 1;
      boolean free = Modifier.isStatic(f.getModifiers()) && !Modifier.isFinal(f.getModifiers());
      due.is("a static field that is not final: " + f.getName(), free ? 1 : 0, 0);
    }
    due.is("constants", constants, 4);
    Constructor<?>[] makers = RamBook.class.getDeclaredConstructors();
    due.is("constructors", makers.length, 1);
    due.is("its parameters", makers[0].getParameterCount(), 0);
    due.is("it is public", Modifier.isPublic(makers[0].getModifiers()) ? 1 : 0, 1);
    for (Class<?> c : RamBook.class.getDeclaredClasses()) {
      boolean seen = Modifier.isPublic(c.getModifiers()) || Modifier.isProtected(c.getModifiers());
      due.is(c.getName() + " is static and not public", Modifier.isStatic(c.getModifiers()) && !seen ? 1 : 0, 1);
    }
    due.end();
  }
}
