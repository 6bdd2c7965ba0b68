import java.io.IOException;
import java.lang.reflect.Method;
import java.lang.reflect.Modifier;
import java.util.Arrays;
import java.util.HashSet;
import java.util.List;
import java.util.Set;

/**
 * Runs of 512 calls, drawn by lots of a fixed seed, on the program and on PlainDesk: all answers are held
 * against one another. Each run has a theme, so that rows grow long and answers lie beyond refusals; each call
 * must have been answered often, and refused in each way that its promise names.
 */
public final class RunsTest {
  private static final List<String> REFUSALS = List.of("UNKNOWN", "OUTSIDE", "STATE", "FULL", "NO", "NONE");
  /** The calls of promises 2 to 47, in their order. */
  private static final String[] NAMES = {
    "key", "letter", "wipe", "rule", "join", "own", "quarrel", "idle", "missing", "speak",
    "strike", "change", "back", "stands", "piece", "could", "word", "ofWord", "count", "price",
    "slip", "guess", "part", "pieceOf", "both", "say", "chosen", "product", "learn", "worth",
    "forget", "fade", "mine", "budget", "seed", "share", "symbols", "set", "pair", "same",
    "cost", "best", "bound", "better", "way", "told"};
  /** How often the calls of NAMES come, theme by theme. */
  private static final int[][] THEMES = {
    weights("key 30 letter 20 wipe 1 rule 12 join 5 own 10 quarrel 5 idle 3 missing 5 speak 1 strike 24 "
        + "change 3 back 2 stands 14 piece 8 could 6 told 2"),
    weights("key 40 wipe 1 word 9 ofWord 2 count 3 price 1 slip 6 guess 9 part 7 pieceOf 3 told 1"),
    weights("key 20 wipe 6 word 20 count 3 both 14 say 14 chosen 14 product 5 told 2"),
    weights("key 16 wipe 2 word 9 learn 14 worth 10 forget 2 fade 2 mine 9 guess 2 budget 6 seed 1 share 8 told 2"),
    weights("symbols 1 set 40 pair 30 same 2 cost 8 best 1 bound 2 better 8 way 2 told 1"),
    weights("key 9 letter 4 wipe 2 rule 4 join 2 own 2 quarrel 1 idle 1 missing 2 speak 1 strike 4 change 1 back 1 "
        + "stands 3 piece 2 could 2 word 4 ofWord 2 count 1 price 1 slip 2 guess 2 part 1 pieceOf 1 both 2 say 2 "
        + "chosen 2 product 1 learn 3 worth 2 forget 1 fade 1 mine 2 budget 1 seed 1 share 2 symbols 1 set 4 pair 3 "
        + "same 1 cost 2 bound 1 better 2 told 3"),
    // Those that follow fill up: RULES and JOINS, WORDS and pairs, learnings.
    weights("key 20 letter 16 wipe 6 rule 26 join 8 own 4 quarrel 6 idle 4 missing 6 strike 10 stands 6 piece 4 "
        + "could 3 told 2"),
    weights("key 26 wipe 2 word 26 guess 4 part 4 pieceOf 2 slip 2 both 22 say 6 chosen 6 learn 2 mine 2 told 2"),
    weights("key 8 wipe 1 word 2 learn 30 worth 12 forget 1 fade 2 mine 6 budget 6 share 8 told 2"),
  };
  private static final Method[] OF_PROGRAM = new Method[NAMES.length];
  private static final Method[] OF_PLAIN = new Method[NAMES.length];
  private static final int RUNS_OF_A_THEME = 60;
  private static final int CALLS = 512;

  private static long lot = 20261119;
  private static final int[] answers = new int[NAMES.length];
  private static final Set<String> refused = new HashSet<>();
  private static int keysInUse;
  private static int daysInUse;
  private static int today;
  private static int mostWords;

  public static void main(String[] args) throws IOException {
    for (int n = 0; n < NAMES.length; n++) {
      OF_PROGRAM[n] = named(KeyDesk.class, NAMES[n]);
      OF_PLAIN[n] = named(PlainDesk.class, NAMES[n]);
    }
    for (int theme = 0; theme < THEMES.length; theme++) {
      for (int run = 0; run < RUNS_OF_A_THEME && Due.wrong() < 20; run++) {
        drawBounds(theme);
        oneRun(theme, run);
      }
    }
    Document document = new Document();
    for (int n = 0; n < NAMES.length; n++) {
      Due.holds(answers[n] > 50, NAMES[n] + " was answered, not refused, often: " + answers[n]);
      for (String refusal : document.refusals(n + 2)) {
        Due.holds(refused.contains(NAMES[n] + " " + refusal), NAMES[n] + " was refused so: " + refusal);
      }
    }
    Due.end();
  }

  private static int[] weights(String text) {
    int[] found = new int[NAMES.length];
    String[] parts = text.split(" ");
    for (int i = 0; i < parts.length; i += 2) {
      for (int n = 0; n < NAMES.length; n++) {
        if (NAMES[n].equals(parts[i])) {
          found[n] = Integer.parseInt(parts[i + 1]);
        }
      }
    }
    return found;
  }

  private static int draw(int least, int most) {
    lot = lot * 6364136223846793005L + 1442695040888963407L;
    return least + (int) ((lot >>> 33) % (Math.max(least, most) - least + 1));
  }

  /** A number within bounds, seldom one beside them or far off. */
  private static int near(int least, int most) {
    int which = draw(0, 99);
    if (which < 92) {
      return draw(least, most);
    }
    if (which < 98) {
      return draw(0, 1) == 0 ? least - draw(0, 1) : most + draw(0, 1);
    }
    return draw(0, 1) == 0 ? Integer.MIN_VALUE + draw(0, 40) : Integer.MAX_VALUE - draw(0, 40);
  }

  /** Few KEYS in use make many likenesses, few WORDS many ways to part. */
  private static void drawBounds(int theme) {
    keysInUse = draw(0, 2) == 0 ? draw(0, 2) : draw(1, 11);
    daysInUse = draw(0, 2) == 0 ? 3000 : draw(1, 60);
    mostWords = theme == 8 ? draw(1, 3) : theme != 7 && draw(0, 1) == 0 ? draw(1, 12) : 100;
  }

  private static void oneRun(int theme, int run) {
    KeyDesk x = new KeyDesk();
    PlainDesk y = new PlainDesk();
    int all = 0;
    for (int weight : THEMES[theme]) {
      all += weight;
    }
    int call = 0;
    if (theme == 4) {
      int k = draw(2, 7);
      Due.is(x.symbols(k), y.symbols(k));
      call++;
    }
    for (; call < CALLS; call++) {
      today = daysInUse * call / CALLS;
      int name = 0;
      int left = draw(0, all - 1);
      while (left >= THEMES[theme][name]) {
        left -= THEMES[theme][name];
        name++;
      }
      boolean takesKeys = NAMES[name].equals("word") || NAMES[name].equals("rule");
      if (theme >= 6 && takesKeys && y.told(0) == 0 || NAMES[name].equals("word") && y.told(5) >= mostWords) {
        name = 0;
      }
      oneCall(x, y, name, theme + "/" + run + "/" + call);
    }
  }

  private static void oneCall(KeyDesk x, PlainDesk y, int name, String where) {
    int[] a = arguments(NAMES[name], y);
    long got = ask(OF_PROGRAM[name], x, a);
    long want = ask(OF_PLAIN[name], y, a);
    long refusal = got - (NAMES[name].equals("stands") ? KeyDesk.LOST : NAMES[name].equals("share") ? -1000000 : 0);
    if (refusal < 0 && refusal >= KeyDesk.NONE) {
      refused.add(NAMES[name] + " " + REFUSALS.get((int) -refusal - 1));
    } else {
      answers[name]++;
    }
    Due.holds(got == want,
        where + " " + NAMES[name] + Arrays.toString(a) + " answered " + got + ", PlainDesk " + want);
  }

  private static int[] arguments(String name, PlainDesk y) {
    int words = y.told(5);
    int k = y.told(8);
    switch (name) {
      case "key": return row(near(0, keysInUse));
      case "letter": return row(near(1, draw(0, 5) == 0 ? 60 : 6));
      case "wipe": return row(near(0, 2));
      case "rule": return row(draw(0, 3) > 0 ? 0 : near(0, 2));
      case "join": return row(draw(0, 3) > 0 ? 0 : near(0, 2), near(1, 7), near(1, 7), near(1, 9));
      case "own": return row(draw(0, 3) > 0 ? 0 : near(0, 2), near(1, draw(0, 3) == 0 ? 60 : 12), draw(0, 3) > 0 ? 1 : 0);
      case "quarrel":
      case "missing": return row(draw(0, 3) > 0 ? 0 : near(0, 2), near(-1, 8));
      case "idle": return row(draw(0, 3) > 0 ? 0 : near(0, 2), near(0, 1));
      case "speak": return row(draw(0, 3) > 0 ? 0 : near(0, 2));
      case "strike": return row(near(0, y.told(4)), near(0, keysInUse));
      case "change": return row(near(0, y.told(4) - 1), near(0, keysInUse));
      case "back": return row(near(0, y.told(4) - 1));
      case "stands":
      case "piece": return row(near(-1, 1 + y.told(4)));
      case "word": return row(draw(0, 2) > 0 ? 0 : near(0, 2), near(1, 999), draw(0, 1) == 0 ? draw(1, 3) : near(1, 100));
      case "ofWord": return row(near(0, words - 1), draw(0, 1) == 0 ? near(0, 3) : near(4, 19));
      case "count": return row(near(0, words - 1), near(1, 100));
      case "price": return row(near(0, 5), near(0, 20));
      case "slip": return row(near(0, words - 1));
      case "guess": return row(near(1, 7), draw(0, 2) == 0 ? near(0, 60) : draw(0, 25), near(-1, draw(0, words)));
      case "part":
      case "pieceOf": return row(near(1, 7), near(-2, 4));
      case "both": return row(near(0, words - 1), near(0, words - 1), draw(0, 1) == 0 ? draw(0, 3) : near(0, 100));
      case "say": return row(near(0, words - 1), draw(0, 3) == 0 ? 1 : 0);
      case "chosen": return row(near(0, 4));
      case "learn": return row(near(0, 3), near(0, words - 1), draw(0, 9) == 0 ? near(0, daysInUse) : today);
      case "worth": return row(near(0, 3), near(0, Math.min(8, words - 1)), near(0, daysInUse));
      case "forget": return row(near(0, 3), draw(0, 3) == 0 ? -1 : near(0, words - 1));
      case "fade": return row(draw(0, 3) == 0 ? 1000 * draw(0, 1) : near(0, 1000));
      case "mine": return row(near(0, 3), near(0, daysInUse), near(1, 7), near(0, 60), near(-1, draw(0, words)));
      case "budget": return row(near(0, 3), draw(0, 1) == 0 ? draw(0, 100) : near(0, 1000));
      case "seed": return row(near(1, 1000000));
      case "share": return row(near(0, words - 1), draw(0, 1) == 0 ? draw(1, 9) : near(1, 100), near(0, daysInUse));
      case "symbols": return row(near(2, 7));
      case "set": return row(near(0, 2), near(0, k - 1), draw(0, 1) == 0 ? draw(0, 4) : draw(0, 1) == 0 ? near(0, 20) : near(0, 99));
      case "pair": return row(near(0, k - 1), near(0, k - 1), draw(0, 1) == 0 ? draw(0, 2) : near(0, 50));
      case "same": return row(near(0, 20));
      case "cost": return row(layout(k));
      case "better": return row(layout(k), near(0, 1));
      case "way": return row(layout(k), layout(k), near(-2, 4));
      case "told": return row(near(0, draw(0, 1) == 0 ? 8 : 34));
      default: return row();
    }
  }

  private static int[] row(int... numbers) {
    return numbers;
  }

  /** The digits of a LAYOUT, seldom of none. */
  private static int layout(int k) {
    int[] places = new int[k];
    for (int i = 0; i < k; i++) {
      places[i] = i;
    }
    for (int i = k - 1; i > 0; i--) {
      int j = draw(0, i);
      int place = places[i];
      places[i] = places[j];
      places[j] = place;
    }
    if (draw(0, 19) == 0) {
      places[draw(0, k - 1)] = draw(0, 9);
    }
    int digits = 0;
    for (int place : places) {
      digits = 10 * digits + place;
    }
    return draw(0, 39) > 0 ? digits : near(-1, 10 * digits);
  }

  private static Method named(Class<?> of, String name) {
    for (Method method : of.getDeclaredMethods()) {
      // PlainDesk has private methods of the same names; the face's ones take numbers and truths alone.
      boolean plain = !Modifier.isPrivate(method.getModifiers());
      if (plain && method.getName().equals(name)) {
        return method;
      }
    }
    throw new IllegalStateException(of.getName() + " has no " + name);
  }

  private static long ask(Method method, Object of, int[] a) {
    Object[] arguments = new Object[a.length];
    for (int i = 0; i < a.length; i++) {
      boolean truth = method.getParameterTypes()[i] == boolean.class;
      arguments[i] = truth ? (Object) (a[i] == 1) : (Object) a[i];
    }
    try {
      return ((Number) method.invoke(of, arguments)).longValue();
    } catch (ReflectiveOperationException e) {
      throw new IllegalStateException(method + Arrays.toString(a), e);
    }
  }
}
