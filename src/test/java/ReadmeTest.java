import java.io.IOException;
import java.lang.reflect.Method;
import java.lang.reflect.Modifier;
import java.nio.charset.StandardCharsets;
import java.nio.file.Files;
import java.nio.file.Path;
import java.util.Arrays;
import java.util.LinkedHashSet;
import java.util.Set;
import java.util.regex.Matcher;
import java.util.regex.Pattern;

/**
 * README.md: an example shows each call, all answer what they say, and its table tells each call with the
 * refusals of its promise.
 */
public final class ReadmeTest {
  private static final Pattern EXAMPLE = Pattern.compile("desk\\.(\\w+)\\((.*)\\); +// (-?\\d+)(\\D.*)?");
  private static final Pattern CALL = Pattern.compile("\\| `(\\w+)\\((.*)\\)` \\| [^|]+ \\|([^|]*)\\|");
  private static final Pattern FACE = Pattern.compile(" `(?:int|long) (\\w+)\\((.*?)\\)`: .*");

  public static void main(String[] args) throws IOException, ReflectiveOperationException {
    String[] lines = Files.readString(Path.of("README.md"), StandardCharsets.UTF_8).split("\n");
    Set<String> shown = examples(lines);
    Due.about("");
    table(lines, shown);
    Due.end();
  }

  /** Holds the answers of all examples: the calls that are shown. */
  private static Set<String> examples(String[] lines) throws ReflectiveOperationException {
    Set<String> shown = new LinkedHashSet<>();
    KeyDesk desk = null;
    for (String line : lines) {
      if (line.equals("KeyDesk desk = new KeyDesk();")) {
        desk = new KeyDesk();
      } else if (line.startsWith("desk.")) {
        Due.about("README.md: " + line);
        Matcher example = EXAMPLE.matcher(line);
        Due.holds(desk != null && example.matches(), "an example has a desk, and an answer");
        if (desk != null && example.matches()) {
          Due.is(ask(desk, example.group(1), example.group(2)), Long.parseLong(example.group(3)));
          shown.add(example.group(1));
        }
      }
    }
    return shown;
  }

  private static long ask(KeyDesk desk, String name, String told) throws ReflectiveOperationException {
    String[] texts = told.isEmpty() ? new String[0] : told.split(", ");
    Object[] arguments = new Object[texts.length];
    Class<?>[] types = new Class<?>[texts.length];
    for (int i = 0; i < texts.length; i++) {
      boolean truth = texts[i].equals("true") || texts[i].equals("false");
      types[i] = truth ? boolean.class : int.class;
      arguments[i] = truth ? (Object) Boolean.valueOf(texts[i]) : (Object) Integer.valueOf(texts[i]);
    }
    return ((Number) KeyDesk.class.getMethod(name, types).invoke(desk, arguments)).longValue();
  }

  /** The rows of the table are the promises 2 to 47, in their order, with their arguments and refusals. */
  private static void table(String[] lines, Set<String> shown) throws IOException {
    Document document = new Document();
    int promise = 1;
    for (String line : lines) {
      Matcher call = CALL.matcher(line);
      if (call.matches()) {
        promise++;
        Matcher face = FACE.matcher(document.ofPromise(promise));
        Due.holds(face.matches(), "promise " + promise + " has a call");
        if (face.matches()) {
          Due.holds(call.group(1).equals(face.group(1)), "promise " + promise + " is told: " + line);
          Due.holds(call.group(2).equals(face.group(2).replaceAll("(int|boolean) ", "")), "its arguments: " + line);
        }
        Set<String> refusals = new LinkedHashSet<>(Arrays.asList(call.group(3).trim().split(", ")));
        refusals.remove("");
        Due.holds(refusals.equals(document.refusals(promise)), "its refusals: " + line);
      }
    }
    Due.is(promise, Document.PROMISES);
    for (Method method : KeyDesk.class.getDeclaredMethods()) {
      String name = method.getName();
      Due.holds(!Modifier.isPublic(method.getModifiers()) || shown.contains(name), "an example shows " + name);
    }
  }
}
