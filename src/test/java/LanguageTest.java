import java.io.IOException;
import java.lang.reflect.Array;
import java.lang.reflect.Field;
import java.lang.reflect.Method;
import java.lang.reflect.Modifier;
import java.nio.charset.StandardCharsets;
import java.nio.file.Files;
import java.nio.file.Path;
import java.util.Arrays;
import java.util.IdentityHashMap;
import java.util.List;
import java.util.Map;
import java.util.Set;
import java.util.TreeSet;
import java.util.regex.Matcher;
import java.util.regex.Pattern;
import java.util.stream.Collectors;

/** The face of the document, and those rules of LANGUAGE.md that can be seen from outside; takes the program's file. */
public final class LanguageTest {
  private static final Set<String> FACE = new TreeSet<>(List.of(
      "int key(int)", "int letter(int)", "int wipe(int)", "int rule(int)", "int join(int, int, int, int)",
      "int own(int, int, boolean)", "int quarrel(int, int)", "int idle(int, int)", "int missing(int, int)",
      "int speak(int)", "int strike(int, int)", "int change(int, int)", "int back(int)", "int stands(int)",
      "int piece(int)", "int could()", "int word(int, int, int)", "int ofWord(int, int)", "int count(int, int)",
      "int price(int, int)", "int slip(int)", "int guess(int, int, int)", "int part(int, int)",
      "int pieceOf(int, int)", "int both(int, int, int)", "int say(int, boolean)", "int chosen(int)",
      "long product()", "int learn(int, int, int)", "int worth(int, int, int)", "int forget(int, int)",
      "int fade(int)", "int mine(int, int, int, int, int)", "int budget(int, int)", "int seed(int)",
      "int share(int, int, int)", "int symbols(int)", "int set(int, int, int)", "int pair(int, int, int)",
      "int same(int)", "int cost(int)", "int best()", "int bound()", "int better(int, int)",
      "int way(int, int, int)", "int told(int)"));
  private static final Set<String> CONSTANTS = Set.of("UNKNOWN", "OUTSIDE", "STATE", "FULL", "NO", "NONE", "LOST");
  /** Words and signs that rules 2, 4, 6, 12 and 13 leave out. */
  private static final Pattern RULED_OUT = Pattern.compile(
      "\\b(import|package|throw|throws|try|catch|finally|synchronized|assert|volatile|native|var|yield|System\\.in"
          + "|System\\.out|System\\.err|Thread|Runtime|Random|currentTimeMillis|nanoTime|equals|hashCode|toString"
          + "|Object|String\\.valueOf|format|stream|Exact)\\b|->|::|Exact\\(");
  private static final int MOST_CLASSES = 12, MOST_FIELDS = 20, MOST_PARAMETERS = 7, MOST_LINES = 60;
  /** Rule 12 and the room of a run: one object and its rows, far below 600,000 and 7.3 million. */
  private static final int MOST_OBJECTS = 1000, MOST_ELEMENTS = 14000;

  private static long objects;
  private static long elements;

  public static void main(String[] args) throws IOException, IllegalAccessException {
    face();
    constants();
    classesInside();
    room();
    if (args.length > 0) {
      source(Files.readString(Path.of(args[0]), StandardCharsets.ISO_8859_1));
    }
    Due.end();
  }

  private static String signature(Method method) {
    return method.getReturnType().getName() + " " + method.getName()
        + Arrays.stream(method.getParameterTypes()).map(Class::getName).collect(Collectors.joining(", ", "(", ")"));
  }

  private static boolean isOwn(int modifiers) {
    return Modifier.isPrivate(modifiers);
  }

  private static void face() {
    Due.is(KeyDesk.class.getModifiers(), Modifier.PUBLIC | Modifier.FINAL);
    Due.is(KeyDesk.class.getDeclaredConstructors().length, 1);
    Due.is(KeyDesk.class.getConstructors().length, 1);
    Set<String> found = new TreeSet<>();
    Set<String> names = new TreeSet<>();
    for (Method method : KeyDesk.class.getDeclaredMethods()) {
      if (!isOwn(method.getModifiers()) && !method.isSynthetic()) {
        Due.is(method.getModifiers(), Modifier.PUBLIC);
        found.add(signature(method));
        names.add(method.getName());
      }
    }
    Due.holds(found.equals(FACE), "the face is that of the document: " + found);
    for (Method method : KeyDesk.class.getDeclaredMethods()) {
      Due.holds(!isOwn(method.getModifiers()) || !names.contains(method.getName()),
          "no private method has a public name: " + method);
    }
    for (Class<?> inside : KeyDesk.class.getDeclaredClasses()) {
      for (Method method : inside.getDeclaredMethods()) {
        Due.holds(!names.contains(method.getName()), "no method inside has a public name: " + method);
      }
    }
  }

  private static void constants() {
    for (Field field : KeyDesk.class.getDeclaredFields()) {
      boolean told = CONSTANTS.contains(field.getName());
      Due.holds(told == !isOwn(field.getModifiers()), "of the document, or private: " + field);
    }
    Due.is(KeyDesk.UNKNOWN, -1);
    Due.is(KeyDesk.OUTSIDE, -2);
    Due.is(KeyDesk.STATE, -3);
    Due.is(KeyDesk.FULL, -4);
    Due.is(KeyDesk.NO, -5);
    Due.is(KeyDesk.NONE, -6);
    Due.is(KeyDesk.LOST, -1000);
  }

  private static void classesInside() {
    Class<?>[] inside = KeyDesk.class.getDeclaredClasses();
    Due.holds(inside.length < MOST_CLASSES, "few classes");
    for (Class<?> one : inside) {
      Due.holds(Modifier.isStatic(one.getModifiers()) && !Modifier.isPublic(one.getModifiers())
          && !Modifier.isProtected(one.getModifiers()), "static, and not public: " + one);
      Due.is(one.getDeclaredClasses().length, 0);
      limits(one);
    }
    limits(KeyDesk.class);
  }

  private static void limits(Class<?> of) {
    int fields = 0;
    for (Field field : of.getDeclaredFields()) {
      if (Modifier.isStatic(field.getModifiers())) {
        Due.holds(Modifier.isFinal(field.getModifiers()), "static, so final: " + field);
      } else {
        fields++;
      }
    }
    Due.holds(fields <= MOST_FIELDS, "few fields: " + of);
    for (Method method : of.getDeclaredMethods()) {
      Due.holds(method.getParameterCount() <= MOST_PARAMETERS, "few parameters: " + method);
    }
  }

  /** Calls make nothing: what can be reached from an object is the same number of things behind them. */
  private static void room() throws IllegalAccessException {
    KeyDesk x = new KeyDesk();
    measure(x);
    long first = objects;
    Due.holds(objects <= MOST_OBJECTS, "few objects: " + objects);
    Due.holds(elements <= MOST_ELEMENTS, "few elements: " + elements);
    x.key(1);
    x.letter(1);
    x.rule(0);
    x.strike(0, 1);
    x.stands(0);
    x.key(1);
    x.word(0, 1, 1);
    x.key(1);
    x.part(7, 0);
    x.say(0, true);
    x.chosen(0);
    x.best();
    x.way(123, 3210, 0);
    measure(x);
    Due.is(objects, first);
  }

  private static void measure(Object of) throws IllegalAccessException {
    objects = 0;
    elements = 0;
    measure(of, new IdentityHashMap<>());
  }

  private static void measure(Object of, Map<Object, Object> seen) throws IllegalAccessException {
    if (of == null || seen.put(of, of) != null) {
      return;
    }
    objects++;
    if (of.getClass().isArray()) {
      elements += Array.getLength(of);
      for (int i = 0; i < Array.getLength(of) && !of.getClass().getComponentType().isPrimitive(); i++) {
        measure(Array.get(of, i), seen);
      }
      return;
    }
    for (Field field : of.getClass().getDeclaredFields()) {
      if (!Modifier.isStatic(field.getModifiers())) {
        elements++;
        field.setAccessible(true);
        if (!field.getType().isPrimitive()) {
          measure(field.get(of), seen);
        }
      }
    }
  }

  private static void source(String text) {
    Due.holds(text.chars().allMatch(c -> c == '\n' || c >= 32 && c < 127), "signs 32 to 126 alone");
    String bare = text.replaceAll("(?s)/\\*.*?\\*/", "").replaceAll("//[^\n]*", "");
    Matcher matcher = RULED_OUT.matcher(bare);
    while (matcher.find()) {
      Due.holds(false, "ruled out: " + matcher.group());
    }
    Due.holds(!Pattern.compile("static\\s*\\{").matcher(bare).find(), "no static block");
    int from = -1;
    String[] lines = text.split("\n");
    for (int i = 0; i < lines.length; i++) {
      String line = lines[i];
      if (line.matches(" {4,8}\\w.*\\) \\{")) {
        from = i;
      } else if (from >= 0 && line.matches(" {4,8}}")) {
        Due.holds(i - from < MOST_LINES, "a short method: " + lines[from]);
        from = -1;
      }
    }
  }
}
