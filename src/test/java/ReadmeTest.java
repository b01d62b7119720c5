import java.io.IOException;
import java.lang.reflect.InvocationTargetException;
import java.lang.reflect.Method;
import java.lang.reflect.Modifier;
import java.nio.file.Files;
import java.nio.file.Path;
import java.util.List;
import java.util.Set;
import java.util.TreeSet;
import java.util.regex.Matcher;
import java.util.regex.Pattern;

/** README.md tells a year with its answers: each call has to answer as it says, on one object. */
public final class ReadmeTest {
  private static final Pattern CALL = Pattern.compile("prize\\.(\\w+)\\((.*)\\);\\s*// ([^:]+)(:.*)?");

  private static Object[] numbersIn(String text) {
    if (text.isEmpty()) {
      return new Object[0];
    }
    String[] parts = text.split(", ");
    Object[] numbers = new Object[parts.length];
    for (int k = 0; k < parts.length; k++) {
      numbers[k] = Integer.valueOf(parts[k]);
    }
    return numbers;
  }

  private static Method face(String name) {
    for (Method method : PrizeHouse.class.getMethods()) {
      if (method.getName().equals(name)) {
        return method;
      }
    }
    throw new IllegalArgumentException("README.md names " + name + ", which is no call");
  }

  private static String answer(PrizeHouse prize, Method call, Object[] numbers)
      throws IllegalAccessException {
    try {
      return String.valueOf(call.invoke(prize, numbers));
    } catch (InvocationTargetException e) {
      return "throws " + e.getCause().getClass().getSimpleName();
    }
  }

  private static Set<String> facesNames() {
    Set<String> names = new TreeSet<>();
    for (Method method : PrizeHouse.class.getDeclaredMethods()) {
      if (Modifier.isPublic(method.getModifiers())) {
        names.add(method.getName());
      }
    }
    return names;
  }

  public static void main(String[] args) throws IOException, IllegalAccessException {
    Check c = new Check("ReadmeTest");
    List<String> lines = Files.readAllLines(Path.of("README.md"));
    PrizeHouse prize = new PrizeHouse();
    Set<String> untold = facesNames();
    for (String line : lines) {
      Matcher told = CALL.matcher(line);
      if (told.matches()) {
        untold.remove(told.group(1));
        String got = answer(prize, face(told.group(1)), numbersIn(told.group(2)));
        c.holds(line, got.equals(told.group(3)), "answered " + got);
      } else if (line.startsWith("prize.")) {
        c.holds(line, false, "tells no answer");
      }
    }
    c.holds("the year", untold.isEmpty(), "does not show " + untold);
    c.close();
  }
}
