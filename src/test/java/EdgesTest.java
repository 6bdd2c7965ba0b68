import java.io.IOException;
import java.lang.reflect.InvocationTargetException;
import java.lang.reflect.Method;
import java.lang.reflect.Modifier;
import java.nio.charset.StandardCharsets;
import java.nio.file.Files;
import java.nio.file.Path;
import java.util.Arrays;
import java.util.Comparator;
import java.util.HashMap;
import java.util.HashSet;
import java.util.List;
import java.util.Map;
import java.util.Set;
import java.util.regex.Matcher;
import java.util.regex.Pattern;

/**
 * Runs every edge: one test for each sentence of the document that names a boundary. It looks each sentence up
 * in ../shared/DOC.md (so it is started in the checkout), and holds that each refusal that a promise names is
 * due in one of its edges at least.
 */
public final class EdgesTest {
  private static final List<Class<?>> EDGES =
      List.of(LettersEdges.class, WordsEdges.class, HandsEdges.class, LayoutsEdges.class);
  private static final int PROMISES = 47;
  private static final Map<String, Integer> REFUSALS =
      Map.of("UNKNOWN", -1, "OUTSIDE", -2, "STATE", -3, "FULL", -4, "NO", -5, "NONE", -6);

  /** What the document says of each promise; with 0, what it says ahead of them, of all. */
  private static final Map<Integer, String> said = new HashMap<>();
  private static final Map<Integer, Set<Long>> due = new HashMap<>();

  public static void main(String[] args) throws IOException, IllegalAccessException {
    read(Path.of("..", "shared", "DOC.md"));
    int edges = 0;
    for (Class<?> part : EDGES) {
      Method[] methods = part.getDeclaredMethods();
      Arrays.sort(methods, Comparator.comparing(Method::getName));
      for (Method method : methods) {
        if (method.getAnnotation(Edge.class) != null) {
          run(method);
          edges++;
        } else {
          Due.holds(Modifier.isPrivate(method.getModifiers()), "no edge, so private: " + method.getName());
        }
      }
    }
    Due.about("");
    for (int promise = 1; promise <= PROMISES; promise++) {
      refusals(promise);
    }
    System.out.println(edges + " edges");
    Due.end();
  }

  private static String plain(String text) {
    return text.replaceAll("\\s+", " ");
  }

  private static void read(Path document) throws IOException {
    String text = Files.readString(document, StandardCharsets.UTF_8);
    Matcher heading = Pattern.compile("(?m)^## (Promise (\\d+): \\w.*|Not promised)$").matcher(text);
    int promise = 0;
    int from = 0;
    while (heading.find()) {
      said.put(promise, plain(text.substring(from, heading.start())));
      promise = heading.group(2) == null ? PROMISES + 1 : Integer.parseInt(heading.group(2));
      from = heading.end();
    }
    Due.holds(said.size() == PROMISES + 1, "promises 1 to 47 were found in " + document);
  }

  private static void run(Method method) throws IllegalAccessException {
    Edge edge = method.getAnnotation(Edge.class);
    Due.about("promise " + edge.promise() + ", " + method.getName() + ": \"" + edge.sentence() + "\"");
    for (String words : edge.sentence().split(" \\.\\. ")) {
      boolean found = said.get(edge.promise()).contains(words) || said.get(0).contains(words);
      Due.holds(found, "the document says: " + words);
    }
    int asked = Due.asked();
    try {
      method.invoke(null);
    } catch (InvocationTargetException e) {
      Due.holds(false, "no call throws: " + e.getCause());
    }
    Due.holds(Due.asked() > asked, "something was asked");
    due.computeIfAbsent(edge.promise(), promise -> new HashSet<>()).addAll(Due.wanted());
  }

  /** Each refusal that a promise names is due in its edges; stands and share tell theirs further down. */
  private static void refusals(int promise) {
    Set<Long> found = due.getOrDefault(promise, Set.of());
    Due.holds(!found.isEmpty(), "promise " + promise + " has edges");
    Matcher name = Pattern.compile("\\b(UNKNOWN|OUTSIDE|STATE|FULL|NO|NONE)\\b").matcher(said.get(promise));
    long down = promise == 15 ? KeyDesk.LOST : promise == 37 ? -1000000 : 0;
    while (name.find()) {
      long refusal = REFUSALS.get(name.group()) + down;
      Due.holds(found.contains(refusal), "promise " + promise + " has an edge with " + name.group());
    }
  }
}
