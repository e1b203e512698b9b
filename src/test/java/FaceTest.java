import java.lang.reflect.Constructor;
import java.lang.reflect.Field;
import java.lang.reflect.Member;
import java.lang.reflect.Method;
import java.lang.reflect.Modifier;
import java.util.Set;
import java.util.TreeSet;

/** The class shows the document's face, and nothing else of its own. */
public final class FaceTest {
  private static final Checks C = new Checks("FaceTest");
  private static final Set<String> FACE = Set.of("ErrandLanes()", "NONE", "BAD", "STATE", "FULL",
      "row(int,int,int)", "set(int,int,int)", "copy(int,int,int,int,int)", "drop(int)",
      "feed(long,int)", "path()", "fault()", "halves(int)", "undo()", "person(int,int)",
      "errand(int,int)", "ahead(int,int,int)", "done(int,int)", "secret(int,int)", "soon(int)",
      "clean(int,int,int,int)", "hands(int,int,int)", "began(int,int,int)", "image(int)",
      "restore(int)", "kind(int)", "as(int,int)", "ask(int,int)", "trace(int)", "count(int)",
      "status()");

  public static void main(String[] args) {
    Class<?> c = ErrandLanes.class;
    C.due("public and final, 1", Modifier.isPublic(c.getModifiers()) && Modifier.isFinal(c.getModifiers()) ? 1 : 0, 1);
    C.due("in a package, 0", c.getPackageName().isEmpty() ? 0 : 1, 0);
    Set<String> shown = new TreeSet<>();
    Set<String> hidden = new TreeSet<>();
    for (Constructor<?> k : c.getDeclaredConstructors()) {
      put(k, "ErrandLanes" + types(k.getParameterTypes()), shown, hidden);
    }
    for (Method m : c.getDeclaredMethods()) {
      put(m, m.getName() + types(m.getParameterTypes()), shown, hidden);
      C.due(m.getName() + " is private, or answers an int, 1",
          Modifier.isPrivate(m.getModifiers()) || m.getReturnType() == int.class ? 1 : 0, 1);
    }
    for (Field f : c.getDeclaredFields()) {
      put(f, f.getName(), shown, hidden);
      C.due(f.getName() + " is of the object, or final, 1",
          !Modifier.isStatic(f.getModifiers()) || Modifier.isFinal(f.getModifiers()) ? 1 : 0, 1);
    }
    System.out.println("FaceTest: shown " + shown);
    C.due("what is shown is the face, 1", shown.equals(FACE) ? 1 : 0, 1);
    for (String name : hidden) {
      C.due(name + " has no name of the face, 1", namesOfFace().contains(nameOf(name)) ? 0 : 1, 1);
    }
    inside(c);
    C.end();
  }

  private static void inside(Class<?> c) {
    C.due("classes: twelve at most, 1", c.getDeclaredClasses().length < 12 ? 1 : 0, 1);
    for (Class<?> in : c.getDeclaredClasses()) {
      C.due(in + " is static, 1", Modifier.isStatic(in.getModifiers()) ? 1 : 0, 1);
      C.due(in + " is private or of the package, 1",
          (in.getModifiers() & (Modifier.PUBLIC | Modifier.PROTECTED)) == 0 ? 1 : 0, 1);
      for (Method m : in.getDeclaredMethods()) {
        C.due(in + "." + m.getName() + " has no name of the face, 1",
            namesOfFace().contains(m.getName()) ? 0 : 1, 1);
      }
    }
  }

  private static void put(Member member, String name, Set<String> shown, Set<String> hidden) {
    if (Modifier.isPrivate(member.getModifiers())) {
      if (!(member instanceof Field)) {
        hidden.add(name);
      }
      return;
    }
    shown.add(Modifier.isPublic(member.getModifiers()) ? name : "not public: " + name);
  }

  private static Set<String> namesOfFace() {
    Set<String> names = new TreeSet<>();
    for (String name : FACE) {
      names.add(nameOf(name));
    }
    return names;
  }

  private static String nameOf(String name) {
    int end = name.indexOf('(');
    return end < 0 ? name : name.substring(0, end);
  }

  private static String types(Class<?>[] types) {
    StringBuilder all = new StringBuilder("(");
    for (Class<?> t : types) {
      all.append(all.length() > 1 ? "," : "").append(t.getSimpleName());
    }
    return all.append(")").toString();
  }
}
