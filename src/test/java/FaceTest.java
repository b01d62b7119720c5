import java.lang.reflect.Constructor;
import java.lang.reflect.Field;
import java.lang.reflect.Method;
import java.lang.reflect.Modifier;
import java.util.Set;
import java.util.StringJoiner;
import java.util.TreeSet;

/** The public face: what the document lists there, and nothing else (LANGUAGE.md, rule 1). */
public final class FaceTest {
  private static final String INDEX = "IndexOutOfBoundsException";
  private static final String ARGUMENT = "IllegalArgumentException";
  private static final String STATE = "IllegalStateException";

  private static final Set<String> FACE = Set.of(
      "int house() throws " + STATE,
      "int book(int, int, int, int, int, int) throws " + INDEX + ", " + ARGUMENT + ", " + STATE,
      "int judge(int, int, int) throws " + ARGUMENT + ", " + STATE,
      "int conflict(int, int) throws " + INDEX + ", " + ARGUMENT,
      "int rules(int, int, int, int) throws " + ARGUMENT,
      "int enter(int) throws " + INDEX + ", " + STATE,
      "int callIn(int, int) throws " + INDEX + ", " + STATE,
      "int read() throws " + STATE,
      "int print(int, int) throws " + INDEX + ", " + ARGUMENT,
      "int pass(int) throws " + ARGUMENT + ", " + STATE,
      "int longList(int) throws " + ARGUMENT + ", " + STATE,
      "int points(int, int, int) throws " + INDEX + ", " + ARGUMENT + ", " + STATE,
      "int shortList(int) throws " + ARGUMENT + ", " + STATE,
      "int vote(int, int) throws " + INDEX + ", " + ARGUMENT + ", " + STATE,
      "int end() throws " + STATE,
      "int strip() throws " + STATE,
      "int next() throws " + STATE,
      "int ofHouse(int, int) throws " + INDEX + ", " + ARGUMENT,
      "int ofBook(int, int) throws " + INDEX + ", " + ARGUMENT,
      "int ofJudge(int, int) throws " + INDEX + ", " + ARGUMENT,
      "int mark(int, int) throws " + INDEX,
      "int many(int) throws " + ARGUMENT,
      "double meanMark()",
      "int wins(int) throws " + ARGUMENT,
      "int beatsAll()",
      "int spoiled(int) throws " + INDEX,
      "int readIn()",
      "int wouldMiss(int) throws " + ARGUMENT,
      "long digest()");

  private static final Check c = new Check("FaceTest");

  private static String namesOf(Class<?>[] types) {
    StringJoiner names = new StringJoiner(", ");
    for (Class<?> type : types) {
      names.add(type.getSimpleName());
    }
    return names.toString();
  }

  private static String told(Method method) {
    String thrown = namesOf(method.getExceptionTypes());
    return method.getReturnType().getSimpleName() + " " + method.getName() + "("
        + namesOf(method.getParameterTypes()) + ")" + (thrown.isEmpty() ? "" : " throws " + thrown);
  }

  private static boolean isOpen(int modifiers) {
    return !Modifier.isPrivate(modifiers);
  }

  private static void methods() {
    c.part("methods");
    Set<String> found = new TreeSet<>();
    Set<String> openNames = new TreeSet<>();
    for (Method method : PrizeHouse.class.getDeclaredMethods()) {
      if (isOpen(method.getModifiers()) && !method.isSynthetic()) {
        c.holds(told(method), Modifier.isPublic(method.getModifiers()), "is neither public nor private");
        c.holds(told(method), !Modifier.isStatic(method.getModifiers()), "is static");
        c.holds(told(method), FACE.contains(told(method)), "is not of the face");
        found.add(told(method));
        openNames.add(method.getName());
      }
    }
    for (String due : FACE) {
      c.holds(due, found.contains(due), "lacks");
    }
    for (Method method : PrizeHouse.class.getDeclaredMethods()) {
      if (Modifier.isPrivate(method.getModifiers())) {
        c.holds(told(method), !openNames.contains(method.getName()), "bears the name of a public one");
      }
    }
  }

  private static void theRest() {
    c.part("the class");
    int modifiers = PrizeHouse.class.getModifiers();
    c.holds("PrizeHouse", Modifier.isPublic(modifiers) && Modifier.isFinal(modifiers),
        "is not public and final");
    Constructor<?>[] constructors = PrizeHouse.class.getDeclaredConstructors();
    c.is("constructors", constructors.length, 1);
    c.holds("the constructor", Modifier.isPublic(constructors[0].getModifiers())
        && constructors[0].getParameterCount() == 0, "is not PrizeHouse()");
    for (Field field : PrizeHouse.class.getDeclaredFields()) {
      c.holds(field.getName(), !isOpen(field.getModifiers()), "is not private");
      c.holds(field.getName(), !Modifier.isStatic(field.getModifiers())
          || Modifier.isFinal(field.getModifiers()), "is static and can change");
    }
    for (Class<?> inside : PrizeHouse.class.getDeclaredClasses()) {
      int of = inside.getModifiers();
      c.holds(inside.getName(), Modifier.isStatic(of) && !Modifier.isPublic(of)
          && !Modifier.isProtected(of), "is not private or package-visible, and static");
    }
  }

  public static void main(String[] args) {
    methods();
    theRest();
    c.close();
  }
}
