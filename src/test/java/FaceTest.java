import java.lang.reflect.Constructor;
import java.lang.reflect.Field;
import java.lang.reflect.Member;
import java.lang.reflect.Method;
import java.lang.reflect.Modifier;
import java.util.Arrays;
import java.util.Set;
import java.util.TreeSet;

/** The public face, and LANGUAGE.md's rule 1. */
public final class FaceTest {
  private static final String[] FACE = {
    "int font(int, int)", "int width(int, int, int)", "int magnify(int)", "int begin(int)",
    "int use(int)", "int set(int, boolean)", "int rule(int, int, boolean)", "int move(boolean, int)",
    "int push()", "int pop()", "int special(long, int)", "int end()", "int finish()", "int octet(int)",
    "int load(long, int)", "int loop()", "int drop()", "int read()", "int fault()",
    "long item(int, int)", "long counted(int, int)", "int count(int)", "int check()"
  };

  public static void main(String[] args) {
    Due due = new Due();
    int modifiers = DviPages.class.getModifiers();
    due.holds("public and final", Modifier.isPublic(modifiers) && Modifier.isFinal(modifiers));
    Set<String> seen = new TreeSet<>();
    Set<String> names = new TreeSet<>();
    for (Method m : DviPages.class.getDeclaredMethods()) {
      if (Modifier.isPublic(m.getModifiers())) {
        seen.add(signature(m));
        names.add(m.getName());
      }
    }
    due.is("face", seen.toString(), new TreeSet<>(Arrays.asList(FACE)).toString());
    for (Method m : DviPages.class.getDeclaredMethods()) {
      due.holds(m + " is public or private with a name of its own",
          Modifier.isPublic(m.getModifiers()) || isPrivate(m) && !names.contains(m.getName()));
    }
    for (Field f : DviPages.class.getDeclaredFields()) {
      due.holds(f + " is private and final", isPrivate(f) && Modifier.isFinal(f.getModifiers()));
    }
    Constructor<?>[] constructors = DviPages.class.getDeclaredConstructors();
    due.is("constructors", constructors.length, 1);
    due.holds("public constructor", Modifier.isPublic(constructors[0].getModifiers()));
    for (Class<?> inside : DviPages.class.getDeclaredClasses()) {
      int m = inside.getModifiers();
      due.holds(inside + " is static and not public",
          Modifier.isStatic(m) && !Modifier.isPublic(m) && !Modifier.isProtected(m));
    }
    due.end();
  }

  private static boolean isPrivate(Member m) {
    return Modifier.isPrivate(m.getModifiers());
  }

  private static String signature(Method m) {
    StringBuilder text = new StringBuilder(m.getReturnType() + " " + m.getName() + "(");
    String between = "";
    for (Class<?> type : m.getParameterTypes()) {
      text.append(between).append(type);
      between = ", ";
    }
    return text.append(")").toString();
  }
}
