/** Short ways to bring a desk to where an edge lies. */
final class Desk {
  private Desk() {
  }

  static int[] row(int... numbers) {
    return numbers;
  }

  static int[] times(int n, int v) {
    int[] found = new int[n];
    for (int i = 0; i < n; i++) {
      found[i] = v;
    }
    return found;
  }

  /** Numbers that are too small: the first of them, a further one, the least there is. */
  static int[] below(int least) {
    return row(least - 1, least - 2, least - 100, Integer.MIN_VALUE + 1, Integer.MIN_VALUE);
  }

  /** Numbers that are too large: the first of them, a further one, the greatest there is. */
  static int[] above(int most) {
    return row(most + 1, most + 2, most + 100, Integer.MAX_VALUE - 1, Integer.MAX_VALUE);
  }

  /** Numbers on both sides. */
  static int[] beyond(int least, int most) {
    int[] low = below(least);
    int[] high = above(most);
    int[] found = new int[low.length + high.length];
    System.arraycopy(low, 0, found, 0, low.length);
    System.arraycopy(high, 0, found, low.length, high.length);
    return found;
  }

  /** The PAD of KEYS holds these, and no others. */
  static void keys(KeyDesk x, int... keys) {
    x.wipe(0);
    for (int k : keys) {
      x.key(k);
    }
  }

  /** The PAD of LETTERS holds these, and no others. */
  static void letters(KeyDesk x, int... letters) {
    x.wipe(1);
    for (int l : letters) {
      x.letter(l);
    }
  }

  /** A RULE: these KEYS make these LETTERS. */
  static int rule(KeyDesk x, int tongue, int[] keys, int... letters) {
    keys(x, keys);
    letters(x, letters);
    return x.rule(tongue);
  }

  static void fillRules(KeyDesk x, int tongue) {
    while (x.told(10 + tongue) < 24) {
      rule(x, tongue, row(1, x.told(10 + tongue) % 12), 1);
    }
  }

  static void fillJoins(KeyDesk x, int tongue) {
    for (int n = x.told(20 + tongue); n < 12; n++) {
      x.join(tongue, 50, 50, 50);
    }
  }

  /** THE LINE holds these strokes, and no others. */
  static void line(KeyDesk x, int... strokes) {
    for (int n = x.told(4); n > 0; n--) {
      x.back(0);
    }
    for (int i = 0; i < strokes.length; i++) {
      x.strike(i, strokes[i]);
    }
  }

  /** These signs stand, and no others. */
  static void stands(KeyDesk x, int... signs) {
    Due.is(x.stands(-1), signs.length);
    for (int i = 0; i < signs.length; i++) {
      Due.is(x.stands(i), signs[i]);
    }
  }

  /** A WORD with SIGN 1. */
  static int word(KeyDesk x, int tongue, int count, int... keys) {
    keys(x, keys);
    return x.word(tongue, 1, count);
  }

  /** WORDS 0 to n less 1, of TONGUE 0, one KEY and COUNT 1 each. */
  static KeyDesk withWords(int n) {
    KeyDesk x = new KeyDesk();
    for (int w = 0; w < n; w++) {
      word(x, 0, 1, w % 12);
    }
    return x;
  }

  /** 40 pairs: the first WORD ahead of itself and the others, the second one so, ... */
  static void fillPairs(KeyDesk x) {
    int words = x.told(5);
    for (int n = 0; n < words * words && x.told(6) < 40; n++) {
      x.both(n / words, n % words, 1);
    }
  }

  static void fillLearnings(KeyDesk x, int hand, int word, int day) {
    for (int n = x.told(7); n < 60; n++) {
      x.learn(hand, word, day);
    }
  }
}
