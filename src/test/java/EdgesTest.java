import java.io.IOException;
import java.lang.reflect.InvocationTargetException;
import java.lang.reflect.Method;
import java.lang.reflect.Modifier;
import java.util.Arrays;
import java.util.Comparator;
import java.util.HashMap;
import java.util.HashSet;
import java.util.List;
import java.util.Map;
import java.util.Set;

/**
 * Runs every edge: one test for each sentence of the document that names a boundary. It looks each sentence up
 * in the document, and holds that each refusal that a promise names is due in one of its edges at least.
 */
public final class EdgesTest {
  private static final List<Class<?>> EDGES =
      List.of(LettersEdges.class, WordsEdges.class, HandsEdges.class, LayoutsEdges.class);
  private static final Map<String, Integer> REFUSALS =
      Map.of("UNKNOWN", -1, "OUTSIDE", -2, "STATE", -3, "FULL", -4, "NO", -5, "NONE", -6);

  /** The answers that were due in the edges of each promise. */
  private static final Map<Integer, Set<Long>> due = new HashMap<>();

  public static void main(String[] args) throws IOException, IllegalAccessException {
    Document document = new Document();
    int edges = 0;
    for (Class<?> part : EDGES) {
      Method[] methods = part.getDeclaredMethods();
      Arrays.sort(methods, Comparator.comparing(Method::getName));
      for (Method method : methods) {
        if (method.getAnnotation(Edge.class) != null) {
          run(document, method);
          edges++;
        } else {
          Due.holds(Modifier.isPrivate(method.getModifiers()), "no edge, so private: " + method.getName());
        }
      }
    }
    Due.about("");
    for (int promise = 1; promise <= Document.PROMISES; promise++) {
      refusals(document, promise);
    }
    System.out.println(edges + " edges");
    Due.end();
  }

  private static void run(Document document, Method method) throws IllegalAccessException {
    Edge edge = method.getAnnotation(Edge.class);
    Due.about("promise " + edge.promise() + ", " + method.getName() + ": \"" + edge.sentence() + "\"");
    for (String words : edge.sentence().split(" \\.\\. ")) {
      Due.holds(document.says(edge.promise(), words), "the document says: " + words);
    }
    int asked = Due.asked();
    try {
      method.invoke(null);
    } catch (InvocationTargetException e) {
      Due.holds(false, "no call throws: " + e.getCause());
    }
    Due.holds(Due.asked() > asked, "something was asked");
    due.computeIfAbsent(edge.promise(), promise -> new HashSet<>()).addAll(Due.wanted());
  }

  /** Each refusal that a promise names is due in its edges; stands and share tell theirs further down. */
  private static void refusals(Document document, int promise) {
    Set<Long> found = due.getOrDefault(promise, Set.of());
    Due.holds(!found.isEmpty(), "promise " + promise + " has edges");
    long down = promise == 15 ? KeyDesk.LOST : promise == 37 ? -1000000 : 0;
    for (String name : document.refusals(promise)) {
      Due.holds(found.contains(REFUSALS.get(name) + down), "promise " + promise + " has an edge with " + name);
    }
  }
}
