import java.lang.reflect.Constructor;
import java.lang.reflect.Field;
import java.lang.reflect.Method;
import java.lang.reflect.Modifier;
import java.util.Set;
import java.util.TreeSet;

/** The public face of the document, and nothing beside it. */
public final class FaceTest {
  public static void main(String[] args) {
    Due due = new Due("FaceTest");
    int of = TermDesk.class.getModifiers();
    due.is("public and final", Modifier.isPublic(of) && Modifier.isFinal(of), true);

    Set<String> seen = new TreeSet<>();
    Set<String> hidden = new TreeSet<>();
    for (Method m : TermDesk.class.getDeclaredMethods()) {
      if (Modifier.isPrivate(m.getModifiers())) {
        hidden.add(m.getName());
      } else if (!m.isSynthetic()) {
        seen.add(m.toString());
      }
    }
    Set<String> wanted = new TreeSet<>(Set.of(
        "public int TermDesk.write(long)", "public int TermDesk.erase()", "public boolean TermDesk.levels(int)",
        "public int TermDesk.check(int)", "public int TermDesk.normal(int)", "public int TermDesk.place()",
        "public int TermDesk.cost()", "public int TermDesk.length()", "public int TermDesk.at(int)",
        "public int TermDesk.number()"));
    due.is("methods", seen.toString(), wanted.toString());

    Constructor<?>[] made = TermDesk.class.getDeclaredConstructors();
    due.is("constructors", made.length, 1);
    due.is("constructor", made[0].toString(), "public TermDesk()");
    for (Field f : TermDesk.class.getDeclaredFields()) {
      due.is("private field " + f.getName(), Modifier.isPrivate(f.getModifiers()), true);
    }
    for (Class<?> c : TermDesk.class.getDeclaredClasses()) {
      int mods = c.getModifiers();
      due.is("static class " + c.getName(), Modifier.isStatic(mods) && !Modifier.isPublic(mods), true);
      for (Method m : c.getDeclaredMethods()) {
        hidden.add(m.getName());
      }
    }
    for (String name : hidden) {
      boolean taken = false;
      for (String face : wanted) {
        taken |= face.contains("." + name + "(");
      }
      due.is("a hidden method with a public name, " + name, taken, false);
    }
    due.end();
  }
}
