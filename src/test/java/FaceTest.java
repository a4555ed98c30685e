import java.lang.reflect.Constructor;
import java.lang.reflect.Field;
import java.lang.reflect.Method;
import java.lang.reflect.Modifier;
import java.util.Arrays;
import java.util.Set;
import java.util.TreeSet;

/** The public face is the document's and no more (LANGUAGE.md, rules 1 and 5). */
public final class FaceTest {
  private static final Check CHECK = new Check("FaceTest");
  static final String[] FACE = {"group 1", "way 2", "child 2", "told 2", "slips 2", "work 3", "column 5",
    "right 2", "parts 3", "whose 3", "slip 3", "fits 3", "likely 2", "odds 4", "held 5", "most 2", "apart 3",
    "never 2", "luck 3", "clash 1", "comes 2", "day 4", "say 2", "bestSaying 1", "weeks 4", "groups 1", "greatest 0",
    "lesson 1", "lacks 2", "copied 4", "judge 2", "image 0", "restore 0", "count 1", "keep 3", "row 3", "put 3",
    "element 2", "copy 5", "cost 1", "toss 1"};

  public static void main(String[] args) {
    theClass();
    methods();
    fields();
    for (Class<?> inside : OwnWays.class.getDeclaredClasses()) {
      inside(inside);
    }
    CHECK.end();
  }

  private static void theClass() {
    CHECK.holds("public and final", Modifier.isPublic(OwnWays.class.getModifiers())
        && Modifier.isFinal(OwnWays.class.getModifiers()));
    CHECK.holds("without a package", OwnWays.class.getPackageName().isEmpty());
    int seen = 0;
    for (Constructor<?> constructor : OwnWays.class.getDeclaredConstructors()) {
      if (!Modifier.isPrivate(constructor.getModifiers())) {
        seen++;
        CHECK.holds("a public constructor", Modifier.isPublic(constructor.getModifiers()));
        CHECK.due("its parameters", constructor.getParameterCount(), 0);
      }
    }
    CHECK.due("constructors", seen, 1);
    CHECK.holds("some twelve classes", OwnWays.class.getDeclaredClasses().length <= 16);
  }

  private static void methods() {
    Set<String> found = new TreeSet<>();
    Set<String> names = new TreeSet<>();
    for (Method m : OwnWays.class.getDeclaredMethods()) {
      if (Modifier.isPublic(m.getModifiers())) {
        found.add(m.getName() + " " + m.getParameterCount());
        names.add(m.getName());
        ofTheFace(m);
      }
    }
    for (Method m : OwnWays.class.getDeclaredMethods()) {
      if (!Modifier.isPublic(m.getModifiers()) && !m.isSynthetic()) {
        CHECK.holds(m.getName() + " is private", Modifier.isPrivate(m.getModifiers()));
        CHECK.holds(m.getName() + " has a name of its own", !names.contains(m.getName()));
        CHECK.holds(m.getName() + " has at most seven parameters", m.getParameterCount() <= 7);
      }
    }
    CHECK.holds("the face: " + found, found.equals(new TreeSet<>(Arrays.asList(FACE))));
  }

  private static void ofTheFace(Method m) {
    boolean isElement = m.getName().equals("element");
    CHECK.holds(m.getName() + " answers as told", m.getReturnType() == (isElement ? long.class : int.class));
    CHECK.holds(m.getName() + " is no static one", !Modifier.isStatic(m.getModifiers()));
    CHECK.holds(m.getName() + " throws as told", Arrays.equals(m.getExceptionTypes(), isElement
        ? new Class<?>[] {IllegalArgumentException.class, IllegalStateException.class} : new Class<?>[0]));
    for (Class<?> parameter : m.getParameterTypes()) {
      CHECK.holds(m.getName() + " takes ints", parameter == int.class);
    }
  }

  private static void fields() {
    int own = 0;
    for (Field f : OwnWays.class.getDeclaredFields()) {
      if (f.isSynthetic()) {
        continue;
      }
      CHECK.holds(f.getName() + " is private", Modifier.isPrivate(f.getModifiers()));
      if (Modifier.isStatic(f.getModifiers())) {
        constant(f);
      } else {
        own++;
      }
    }
    CHECK.holds("some twenty fields: " + own, own <= 30);
  }

  /** A static field is final: a number, a boolean, a char, a text, an array of numbers or chars, an enum's values. */
  private static void constant(Field f) {
    Class<?> type = f.getType();
    Class<?> part = type.isArray() ? type.getComponentType() : type;
    boolean isConstant = part.isEnum() || (type.isArray()
        ? part == int.class || part == long.class || part == char.class || part == byte.class
        : part == int.class || part == long.class || part == boolean.class || part == char.class || part == String.class);
    CHECK.holds(f.getName() + " is final", Modifier.isFinal(f.getModifiers()));
    CHECK.holds(f.getName() + " is a constant", isConstant);
  }

  private static void inside(Class<?> c) {
    int modifiers = c.getModifiers();
    // Rule 1 wants it static, rule 2 lets it use its outer object: both are let pass.
    CHECK.holds(c.getName() + " is private or package-visible",
        !Modifier.isPublic(modifiers) && !Modifier.isProtected(modifiers));
    for (Method m : c.getDeclaredMethods()) {
      CHECK.holds(c.getName() + "." + m.getName() + " has at most seven parameters", m.getParameterCount() <= 7);
    }
    for (Field f : c.getDeclaredFields()) {
      if (Modifier.isStatic(f.getModifiers()) && !f.isSynthetic()) {
        constant(f);
      }
    }
  }
}
