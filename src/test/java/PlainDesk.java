import java.util.ArrayList;
import java.util.Arrays;
import java.util.Comparator;
import java.util.HashMap;
import java.util.HashSet;
import java.util.List;
import java.util.Map;
import java.util.Optional;
import java.util.Set;
import java.util.TreeMap;
import java.util.TreeSet;

/**
 * The document once more, by trying everything: every row of slips, every way to part, every choice, every
 * layout. It shares nothing with the program; RunsTest holds the two against each other.
 */
final class PlainDesk {
  private record Rule(List<Integer> keys, List<Integer> letters) { }

  private record Join(int a, int b, int c) { }

  private record Learning(int hand, int word, int day) { }

  private record Piece(int word, int length) { }

  private record Priced(int word, int price) { }

  private record Parted(int sum, int product, List<Piece> pieces) { }

  private static final class Word {
    int tongue;
    int sign;
    int count;
    List<Integer> keys;
  }

  private final List<Integer> padKeys = new ArrayList<>();
  private final List<Integer> padLetters = new ArrayList<>();
  private final List<Integer> padWords = new ArrayList<>();
  private final List<Boolean> padFixed = new ArrayList<>();
  private final List<List<Rule>> rules = List.of(new ArrayList<>(), new ArrayList<>(), new ArrayList<>());
  private final List<List<Join>> joins = List.of(new ArrayList<>(), new ArrayList<>(), new ArrayList<>());
  private final List<Set<Integer>> alphabets = List.of(new TreeSet<>(), new TreeSet<>(), new TreeSet<>());
  private final List<Integer> line = new ArrayList<>();
  private int lineTongue = 0;
  private final List<Word> words = new ArrayList<>();
  private final int[] prices = {3, 3, 4, 3, 6, 5};
  private final Map<List<Integer>, Integer> together = new HashMap<>();
  private final List<Learning> learnings = new ArrayList<>();
  private int fade = 900;
  private final int[] budgets = {100, 100, 100, 100};
  private long seed = 1;
  private int k = 4;
  private int[] efforts = {1, 1, 1, 1};
  private int[] fingers = new int[4];
  private int[] loads = new int[4];
  private int[][] pairs = new int[4][4];
  private int same = 5;

  private static boolean out(int v, int least, int most) {
    return v < least || v > most;
  }

  private boolean noWord(int w) {
    return out(w, 0, words.size() - 1);
  }

  private static int nth(List<Integer> row, int i) {
    return i == -1 ? row.size() : out(i, 0, row.size() - 1) ? -6 : row.get(i);
  }

  int key(int key) {
    if (out(key, 0, 11)) return -2;
    if (padKeys.size() == 16) return -4;
    padKeys.add(key);
    return padKeys.size();
  }

  int letter(int l) {
    if (out(l, 1, 60)) return -2;
    if (padLetters.size() == 3) return -4;
    padLetters.add(l);
    return padLetters.size();
  }

  int wipe(int which) {
    if (out(which, 0, 2)) return -2;
    List<Integer> pad = which == 0 ? padKeys : which == 1 ? padLetters : padWords;
    int n = pad.size();
    pad.clear();
    if (which == 2) padFixed.clear();
    return n;
  }

  int rule(int t) {
    if (out(t, 0, 2)) return -1;
    if (rules.get(t).size() == 24) return -4;
    if (out(padKeys.size(), 1, 4) || padLetters.isEmpty()) return -5;
    rules.get(t).add(new Rule(List.copyOf(padKeys), List.copyOf(padLetters)));
    padKeys.clear();
    padLetters.clear();
    return rules.get(t).size() - 1;
  }

  int join(int t, int a, int b, int c) {
    if (out(t, 0, 2)) return -1;
    if (out(a, 1, 60) || out(b, 1, 60) || out(c, 1, 60)) return -2;
    if (joins.get(t).size() == 12) return -4;
    joins.get(t).add(new Join(a, b, c));
    return joins.get(t).size();
  }

  int own(int t, int l, boolean is) {
    if (out(t, 0, 2)) return -1;
    if (out(l, 1, 60)) return -2;
    boolean was = alphabets.get(t).contains(l);
    if (is) alphabets.get(t).add(l);
    else alphabets.get(t).remove(l);
    return was ? 1 : 0;
  }

  int quarrel(int t, int i) {
    if (out(t, 0, 2)) return -1;
    List<Rule> all = rules.get(t);
    List<Integer> found = new ArrayList<>();
    for (int code = 0; code < 2400; code++) {
      int a = code / 100;
      int b = code % 100;
      if (a < b && b < all.size() && all.get(a).keys.equals(all.get(b).keys)
          && !all.get(a).letters.equals(all.get(b).letters)) found.add(code);
    }
    return nth(found, i);
  }

  private boolean isIdle(int t, int r) {
    List<Rule> all = rules.get(t);
    return all.subList(0, r).stream().anyMatch(ahead -> ahead.keys.equals(all.get(r).keys));
  }

  int idle(int t, int what) {
    if (out(t, 0, 2)) return -1;
    if (out(what, 0, 1)) return -2;
    int bits = 0;
    if (what == 0) {
      for (int r = 0; r < rules.get(t).size(); r++) if (isIdle(t, r)) bits += 1 << r;
      return bits;
    }
    for (int key = 0; key < 12; key++) {
      int wanted = key;
      if (rules.get(t).stream().noneMatch(rule -> rule.keys.contains(wanted))) bits += 1 << key;
    }
    return bits;
  }

  int missing(int t, int i) {
    if (out(t, 0, 2)) return -1;
    Set<Integer> made = new HashSet<>();
    for (int r = 0; r < rules.get(t).size(); r++) if (!isIdle(t, r)) made.addAll(rules.get(t).get(r).letters);
    int before;
    do {
      before = made.size();
      for (Join j : joins.get(t)) if (made.contains(j.a) && made.contains(j.b)) made.add(j.c);
    } while (made.size() > before);
    List<Integer> found = new ArrayList<>(alphabets.get(t));
    found.removeAll(made);
    return nth(found, i);
  }

  int speak(int t) {
    if (out(t, 0, 2)) return -1;
    int old = lineTongue;
    lineTongue = t;
    return old;
  }

  int strike(int i, int key) {
    if (out(i, 0, line.size()) || out(key, 0, 11)) return -2;
    if (line.size() == 40) return -4;
    line.add(i, key);
    return line.size();
  }

  int change(int i, int key) {
    return out(i, 0, line.size() - 1) || out(key, 0, 11) ? -2 : line.set(i, key);
  }

  int back(int i) {
    return out(i, 0, line.size() - 1) ? -2 : line.remove(i);
  }

  /** Rows of {rule or -1, where it begins, where it ends}. */
  private List<int[]> cut() {
    List<int[]> found = new ArrayList<>();
    int at = 0;
    while (at < line.size()) {
      int[] piece = {-1, at, at + 1};
      for (int n = 4; n >= 1 && piece[0] < 0; n--) {
        for (int r = 0; r < rules.get(lineTongue).size() && piece[0] < 0; r++) {
          List<Integer> keys = rules.get(lineTongue).get(r).keys;
          if (keys.size() == n && at + n <= line.size() && line.subList(at, at + n).equals(keys)) {
            piece = new int[] {r, at, at + n};
          }
        }
      }
      found.add(piece);
      at = piece[2];
    }
    return found;
  }

  int stands(int i) {
    if (i < -1) return -1002;
    List<Integer> signs = new ArrayList<>();
    for (int[] piece : cut()) {
      if (piece[0] < 0) {
        signs.add(-1 - line.get(piece[1]));
      } else {
        for (int letter : rules.get(lineTongue).get(piece[0]).letters) {
          signs.add(letter);
          settle(signs);
        }
      }
    }
    return i >= signs.size() ? -1006 : nth(signs, i);
  }

  private void settle(List<Integer> signs) {
    boolean more = true;
    while (more && signs.size() > 1) {
      more = false;
      int n = signs.size();
      for (Join j : joins.get(lineTongue)) {
        if (j.a == signs.get(n - 2) && j.b == signs.get(n - 1)) {
          signs.remove(n - 1);
          signs.set(n - 2, j.c);
          more = true;
          break;
        }
      }
    }
  }

  int piece(int i) {
    List<Integer> found = new ArrayList<>();
    for (int[] piece : cut()) found.add(100 * (piece[0] < 0 ? 99 : piece[0]) + piece[1]);
    return nth(found, i);
  }

  int could() {
    List<int[]> all = cut();
    List<Integer> begun = all.isEmpty() ? List.of() : line.subList(all.get(all.size() - 1)[1], line.size());
    int bits = 0;
    for (int key = 0; key < 12; key++) {
      List<Integer> wanted = new ArrayList<>(begun);
      wanted.add(key);
      for (Rule r : rules.get(lineTongue)) {
        if (r.keys.size() >= wanted.size() && r.keys.subList(0, wanted.size()).equals(wanted)) bits |= 1 << key;
      }
    }
    return bits;
  }

  int word(int tongue, int sign, int count) {
    if (out(tongue, 0, 2)) return -1;
    if (out(sign, 1, 999) || out(count, 1, 100)) return -2;
    if (words.size() == 60) return -4;
    if (out(padKeys.size(), 1, 8)) return -5;
    Word w = new Word();
    w.tongue = tongue;
    w.sign = sign;
    w.count = count;
    w.keys = List.copyOf(padKeys);
    padKeys.clear();
    words.add(w);
    return words.size() - 1;
  }

  int ofWord(int word, int what) {
    if (noWord(word)) return -1;
    Word w = words.get(word);
    if (what == 0) return w.tongue;
    if (what == 1) return w.sign;
    if (what == 2) return w.count;
    if (what == 3) return w.keys.size();
    if (what < 10) return -2;
    return what - 10 < w.keys.size() ? w.keys.get(what - 10) : -6;
  }

  int count(int word, int n) {
    if (noWord(word)) return -1;
    if (out(n, 1, 100)) return -2;
    int old = words.get(word).count;
    words.get(word).count = n;
    return old;
  }

  int price(int which, int v) {
    if (out(which, 0, 5) || out(v, which == 5 ? 0 : 1, 20)) return -2;
    int old = prices[which];
    prices[which] = v;
    return old;
  }

  private static final String[] ROWS = {"0123", "4567", "89ab"};

  private static boolean beside(int a, int b) {
    if (a == b) return false;
    int rowA = 0;
    int rowB = 0;
    for (int r = 0; r < 3; r++) {
      if (ROWS[r].indexOf(Character.forDigit(a, 12)) >= 0) rowA = r;
      if (ROWS[r].indexOf(Character.forDigit(b, 12)) >= 0) rowB = r;
    }
    int columnA = ROWS[rowA].indexOf(Character.forDigit(a, 12));
    int columnB = ROWS[rowB].indexOf(Character.forDigit(b, 12));
    return !out(rowA - rowB, -1, 1) && !out(columnA - columnB, -1, 1);
  }

  /** The least sum from struck KEY i and KEY j of the WORD on, told from the front. */
  private int price(List<Integer> struck, int i, List<Integer> due, int j, int[][] known) {
    if (i == struck.size() && j == due.size()) return 0;
    if (known[i][j] > 0) return known[i][j] - 1;
    int least = Integer.MAX_VALUE;
    if (j < due.size()) least = Math.min(least, prices[2] + price(struck, i, due, j + 1, known));
    if (i < struck.size()) {
      boolean twice = i > 0 && struck.get(i - 1).equals(struck.get(i));
      least = Math.min(least, prices[twice ? 1 : 4] + price(struck, i + 1, due, j, known));
    }
    if (i < struck.size() && j < due.size()) {
      int one = struck.get(i).equals(due.get(j)) ? 0 : prices[beside(struck.get(i), due.get(j)) ? 0 : 4];
      least = Math.min(least, one + price(struck, i + 1, due, j + 1, known));
    }
    if (i + 1 < struck.size() && j + 1 < due.size() && !struck.get(i).equals(struck.get(i + 1))
        && struck.get(i).equals(due.get(j + 1)) && struck.get(i + 1).equals(due.get(j))) {
      least = Math.min(least, prices[3] + price(struck, i + 2, due, j + 2, known));
    }
    known[i][j] = least + 1;
    return least;
  }

  private int priceFor(List<Integer> struck, int word) {
    List<Integer> due = words.get(word).keys;
    return price(struck, 0, due, 0, new int[struck.size() + 1][due.size() + 1]);
  }

  int slip(int word) {
    if (noWord(word)) return -1;
    return padKeys.isEmpty() ? -3 : priceFor(padKeys, word);
  }

  int guess(int tongues, int p, int i) {
    if (out(tongues, 1, 7) || out(p, 0, 60)) return -2;
    return padKeys.isEmpty() ? -3 : nth(guesses(tongues, p, -1, 0), i);
  }

  private List<Integer> guesses(int tongues, int p, int hand, int day) {
    List<Integer> found = new ArrayList<>();
    for (int w = 0; w < words.size(); w++) {
      if ((tongues & 1 << words.get(w).tongue) != 0 && priceFor(padKeys, w) <= p) found.add(w);
    }
    Comparator<Integer> byPrice = Comparator.comparing(w -> priceFor(padKeys, w));
    Comparator<Integer> byWeight = Comparator.comparing(w -> -(1000 * words.get(w).count + worthOf(hand, w, day)));
    found.sort(byPrice.thenComparing(byWeight).thenComparing(w -> w));
    return found;
  }

  private static final Comparator<Parted> PARTED_ORDER = (x, y) -> {
    if (x.sum != y.sum) return Integer.compare(x.sum, y.sum);
    if (x.product != y.product) return Integer.compare(y.product, x.product);
    if (x.pieces.size() != y.pieces.size()) return Integer.compare(x.pieces.size(), y.pieces.size());
    for (int i = 0; i < x.pieces.size(); i++) {
      Piece a = x.pieces.get(i);
      Piece b = y.pieces.get(i);
      if (a.word != b.word) return Integer.compare(a.word, b.word);
      if (a.length != b.length) return Integer.compare(a.length, b.length);
    }
    return 0;
  };

  private Parted bestParted;

  /** Tries all ways to cut the PAD, and all rows of TONGUES for the pieces. */
  private Parted parted(int tongues) {
    bestParted = null;
    tryParts(tongues, 0, new ArrayList<>(), 0, 1, new HashMap<>());
    return bestParted;
  }

  private void tryParts(int tongues, int from, List<Piece> ahead, int sum, int product,
      Map<List<Integer>, Optional<Priced>> known) {
    if (bestParted != null && sum > bestParted.sum) return;
    if (from == padKeys.size()) {
      Parted now = new Parted(sum, product, List.copyOf(ahead));
      if (bestParted == null || PARTED_ORDER.compare(now, bestParted) < 0) bestParted = now;
      return;
    }
    if (ahead.size() == 4) return;
    for (int tongue = 0; tongue < 3; tongue++) {
      if ((tongues >> tongue) % 2 == 0) continue;
      boolean switches = !ahead.isEmpty() && words.get(ahead.get(ahead.size() - 1).word).tongue != tongue;
      for (int n = 1; n <= 10 && from + n <= padKeys.size(); n++) {
        Optional<Priced> it = known.get(List.of(tongue, from, n));
        if (it == null) {
          it = firstOf(tongue, padKeys.subList(from, from + n));
          known.put(List.of(tongue, from, n), it);
        }
        if (it.isEmpty()) continue;
        ahead.add(new Piece(it.get().word, n));
        tryParts(tongues, from + n, ahead, sum + it.get().price + (switches ? prices[5] : 0),
            product * words.get(it.get().word).count, known);
        ahead.remove(ahead.size() - 1);
      }
    }
  }

  /** Where cuts and TONGUES are given, each piece has the WORD of the least PRICE, then of the greatest COUNT. */
  private Optional<Priced> firstOf(int tongue, List<Integer> struck) {
    List<Priced> found = new ArrayList<>();
    for (int w = 0; w < words.size(); w++) {
      if (words.get(w).tongue == tongue) found.add(new Priced(w, priceFor(struck, w)));
    }
    Comparator<Priced> byPrice = Comparator.comparing(Priced::price);
    return found.stream().min(byPrice.thenComparing(it -> -words.get(it.word).count).thenComparing(Priced::word));
  }

  int part(int tongues, int i) {
    if (out(tongues, 1, 7)) return -2;
    if (padKeys.isEmpty()) return -3;
    Parted found = parted(tongues);
    if (found == null) return -5;
    if (i == -1) return found.sum;
    if (i == -2) return found.pieces.size();
    return out(i, 0, found.pieces.size() - 1) ? -6 : found.pieces.get(i).word;
  }

  int pieceOf(int tongues, int i) {
    if (out(tongues, 1, 7)) return -2;
    if (padKeys.isEmpty()) return -3;
    Parted found = parted(tongues);
    if (found == null) return -5;
    return out(i, 0, found.pieces.size() - 1) ? -6 : found.pieces.get(i).length;
  }

  int both(int first, int second, int n) {
    if (noWord(first) || noWord(second)) return -1;
    if (out(n, 0, 100)) return -2;
    List<Integer> pair = List.of(first, second);
    int old = together.getOrDefault(pair, 0);
    if (n > 0 && old == 0 && together.size() == 40) return -4;
    if (n == 0) together.remove(pair);
    else together.put(pair, n);
    return old;
  }

  int say(int word, boolean fixed) {
    if (noWord(word)) return -1;
    if (padWords.size() == 5) return -4;
    padWords.add(word);
    padFixed.add(fixed);
    return padWords.size();
  }

  private List<Integer> bestChoice;
  private long bestProduct;

  private void tryChoices(List<Integer> ahead, long product) {
    int i = ahead.size();
    if (i == padWords.size()) {
      if (product > bestProduct) {
        bestProduct = product;
        bestChoice = List.copyOf(ahead);
      }
      return;
    }
    // Of several with one product the first by numbers was tried first.
    if (product * most(i) <= bestProduct) return;
    for (int w = 0; w < words.size(); w++) {
      if (fits(i, w)) {
        Word it = words.get(w);
        int near = i == 0 ? 1 : 1 + together.getOrDefault(List.of(ahead.get(i - 1), w), 0);
        ahead.add(w);
        tryChoices(ahead, product * it.count * near);
        ahead.remove(i);
      }
    }
  }

  private boolean fits(int i, int w) {
    Word said = words.get(padWords.get(i));
    Word it = words.get(w);
    return padFixed.get(i) ? w == padWords.get(i) : it.tongue == said.tongue && it.keys.equals(said.keys);
  }

  /** More than the WORDS from a place of the PAD on can bring. */
  private long most(int from) {
    long product = 1;
    int near = 1 + together.values().stream().max(Comparator.naturalOrder()).orElse(0);
    for (int i = from; i < padWords.size(); i++) {
      int count = 0;
      for (int w = 0; w < words.size(); w++) if (fits(i, w)) count = Math.max(count, words.get(w).count);
      product *= count * (i == 0 ? 1 : near);
    }
    return product;
  }

  int chosen(int i) {
    bestChoice = List.of();
    bestProduct = 0;
    tryChoices(new ArrayList<>(), 1);
    return out(i, 0, bestChoice.size() - 1) ? -6 : bestChoice.get(i);
  }

  long product() {
    bestProduct = 0;
    tryChoices(new ArrayList<>(), 1);
    return padWords.isEmpty() ? 0 : bestProduct;
  }

  int learn(int hand, int word, int day) {
    if (out(hand, 0, 3) || noWord(word)) return -1;
    if (out(day, 0, 3000)) return -2;
    if (learnings.size() == 60) return -4;
    if (learnings.stream().anyMatch(x -> x.hand == hand && x.day > day)) return -5;
    learnings.add(new Learning(hand, word, day));
    return learnings.size();
  }

  private int worthOf(int hand, int word, int day) {
    int sum = 0;
    for (Learning x : learnings) {
      if (x.hand == hand && x.word == word && x.day <= day) {
        int left = 1000;
        for (int d = x.day; d < day; d++) left = left * fade / 1000;
        sum += left;
      }
    }
    return sum;
  }

  int worth(int hand, int word, int day) {
    if (out(hand, 0, 3) || noWord(word)) return -1;
    return out(day, 0, 3000) ? -2 : worthOf(hand, word, day);
  }

  int forget(int hand, int word) {
    if (out(hand, 0, 3) || word != -1 && noWord(word)) return -1;
    int n = learnings.size();
    learnings.removeIf(x -> x.hand == hand && (word == -1 || x.word == word));
    return n - learnings.size();
  }

  int fade(int v) {
    if (out(v, 0, 1000)) return -2;
    int old = fade;
    fade = v;
    return old;
  }

  int mine(int hand, int day, int tongues, int p, int i) {
    if (out(hand, 0, 3)) return -1;
    if (out(day, 0, 3000) || out(tongues, 1, 7) || out(p, 0, 60)) return -2;
    return padKeys.isEmpty() ? -3 : nth(guesses(tongues, p, hand, day), i);
  }

  int budget(int hand, int v) {
    if (out(hand, 0, 3)) return -1;
    if (out(v, 0, 1000)) return -2;
    int old = budgets[hand];
    budgets[hand] = v;
    return old;
  }

  int seed(int x) {
    if (out(x, 1, 1000000)) return -2;
    long old = seed;
    seed = x;
    return (int) old;
  }

  int share(int word, int e, int day) {
    if (noWord(word)) return -1000001;
    if (out(e, 1, 100) || out(day, 0, 3000)) return -1000002;
    if (Arrays.stream(budgets).filter(b -> b >= e).count() < 2) return -1000005;
    int sum = 0;
    for (int h = 0; h < 4; h++) {
      if (budgets[h] >= e) {
        budgets[h] -= e;
        sum += Math.min(5000, worthOf(h, word, day));
      }
    }
    seed = seed * 16807 % 2147483647;
    long steps = seed % 2001 - 1000;
    long lot = Math.abs(steps) * 100 / e;
    return (int) (steps < 0 ? sum - lot : sum + lot);
  }

  int symbols(int n) {
    if (out(n, 2, 7)) return -2;
    int old = k;
    k = n;
    efforts = new int[k];
    Arrays.fill(efforts, 1);
    fingers = new int[k];
    loads = new int[k];
    pairs = new int[k][k];
    return old;
  }

  int set(int what, int i, int v) {
    if (out(i, 0, k - 1)) return -1;
    if (out(what, 0, 2) || out(v, 0, what == 0 ? 20 : what == 1 ? 4 : 99)) return -2;
    int[] row = what == 0 ? efforts : what == 1 ? fingers : loads;
    int old = row[i];
    row[i] = v;
    return old;
  }

  int pair(int a, int b, int v) {
    if (out(a, 0, k - 1) || out(b, 0, k - 1)) return -1;
    if (out(v, 0, 50)) return -2;
    int old = pairs[a][b];
    pairs[a][b] = v;
    return old;
  }

  int same(int v) {
    if (out(v, 0, 20)) return -2;
    int old = same;
    same = v;
    return old;
  }

  /** All LAYOUTS of k SYMBOLS as texts of digits, in order. */
  private List<String> layouts() {
    List<String> rows = List.of("");
    for (int n = 0; n < k; n++) {
      List<String> longer = new ArrayList<>();
      for (String row : rows) {
        for (int place = 0; place < k; place++) {
          if (row.indexOf('0' + place) < 0) longer.add(row + place);
        }
      }
      rows = longer;
    }
    return rows;
  }

  /** The digits of a LAYOUT; null if they are none. */
  private String digits(int layout) {
    if (layout < 0) return null;
    StringBuilder text = new StringBuilder(Integer.toString(layout));
    while (text.length() < k) text.insert(0, '0');
    char[] sorted = text.toString().toCharArray();
    Arrays.sort(sorted);
    return new String(sorted).equals("0123456".substring(0, k)) ? text.toString() : null;
  }

  private int costOf(String layout) {
    int sum = 0;
    for (int a = 0; a < k; a++) {
      int placeA = layout.charAt(a) - '0';
      sum += loads[a] * efforts[placeA];
      for (int b = 0; b < k; b++) {
        int placeB = layout.charAt(b) - '0';
        if (a != b) sum += pairs[a][b] * (Math.abs(placeA - placeB) + (fingers[placeA] == fingers[placeB] ? same : 0));
      }
    }
    return sum;
  }

  int cost(int layout) {
    String digits = digits(layout);
    return digits == null ? -2 : costOf(digits);
  }

  int best() {
    return Integer.parseInt(layouts().stream().min(Comparator.comparing(this::costOf)).orElse("-1"));
  }

  int bound() {
    int[] sortedLoads = loads.clone();
    int[] sortedEfforts = efforts.clone();
    Arrays.sort(sortedLoads);
    Arrays.sort(sortedEfforts);
    int sum = 0;
    for (int i = 0; i < k; i++) {
      sum += sortedLoads[k - 1 - i] * sortedEfforts[i];
      for (int j = 0; j < k; j++) if (i != j) sum += pairs[i][j];
    }
    return sum;
  }

  private static String exchanged(String layout, int a, int b) {
    char[] digits = layout.toCharArray();
    digits[a] = layout.charAt(b);
    digits[b] = layout.charAt(a);
    return new String(digits);
  }

  /** Those one exchange away, by numbers of the SYMBOLS. */
  private static List<String> neighbours(String layout) {
    List<String> found = new ArrayList<>();
    for (int a = 0; a < layout.length(); a++) {
      for (int b = a + 1; b < layout.length(); b++) found.add(exchanged(layout, a, b));
    }
    return found;
  }

  int better(int layout, int what) {
    String now = digits(layout);
    if (now == null || out(what, 0, 1)) return -2;
    int n = 0;
    while (true) {
      String next = neighbours(now).stream().min(Comparator.comparing(this::costOf)).orElse(now);
      if (costOf(next) >= costOf(now)) break;
      now = next;
      n++;
    }
    return what == 0 ? Integer.parseInt(now) : n;
  }

  int way(int from, int to, int i) {
    String start = digits(from);
    String end = digits(to);
    if (start == null || end == null) return -2;
    if (k > 5) return -3;
    TreeSet<Integer> peaks = new TreeSet<>();
    for (String layout : layouts()) peaks.add(costOf(layout));
    for (int peak : peaks) {
      List<String> way = shortest(start, end, peak);
      if (way != null) {
        if (i == -1) return peak;
        if (i == -2) return way.size() - 1;
        return out(i, 0, way.size() - 1) ? -6 : Integer.parseInt(way.get(i));
      }
    }
    return Integer.MIN_VALUE;
  }

  /** The first by digits of the shortest ways below a peak: ways grow all at once, in order. */
  private List<String> shortest(String start, String end, int peak) {
    if (costOf(start) > peak || costOf(end) > peak) return null;
    List<List<String>> ways = new ArrayList<>();
    ways.add(List.of(start));
    Set<String> seen = new HashSet<>(Set.of(start));
    while (!ways.isEmpty()) {
      for (List<String> way : ways) {
        if (way.get(way.size() - 1).equals(end)) return way;
      }
      // Of ways of one length to one LAYOUT the first by digits is enough.
      Map<String, List<String>> next = new TreeMap<>();
      for (List<String> way : ways) {
        for (String layout : neighbours(way.get(way.size() - 1))) {
          if (costOf(layout) <= peak && !seen.contains(layout)) {
            List<String> longer = new ArrayList<>(way);
            longer.add(layout);
            next.merge(layout, longer, (x, y) -> String.join(" ", x).compareTo(String.join(" ", y)) <= 0 ? x : y);
          }
        }
      }
      seen.addAll(next.keySet());
      ways = new ArrayList<>(next.values());
    }
    return null;
  }

  int told(int what) {
    return switch (what) {
      case 0 -> padKeys.size();
      case 1 -> padLetters.size();
      case 2 -> padWords.size();
      case 3 -> lineTongue;
      case 4 -> line.size();
      case 5 -> words.size();
      case 6 -> together.size();
      case 7 -> learnings.size();
      case 8 -> k;
      case 10, 11, 12 -> rules.get(what - 10).size();
      case 20, 21, 22 -> joins.get(what - 20).size();
      case 30, 31, 32, 33 -> budgets[what - 30];
      default -> -2;
    };
  }
}
