/** Promises 18 to 29: WORDS, PRICES, GUESSES, PARTED, SOUND, CHOSEN. */
public final class WordsTest {
  public static void main(String[] args) {
    words();
    ofWords();
    counts();
    prices();
    slips();
    slipsAtOtherPrices();
    guesses();
    parted();
    partedOfLikeSums();
    partedAtTheEdges();
    pairs();
    said();
    chosen();
    greatestProduct();
    fullOfWords();
    Due.end();
  }

  private static void pad(KeyDesk x, int... keys) {
    x.wipe(0);
    for (int k : keys) {
      x.key(k);
    }
  }

  private static int word(KeyDesk x, int tongue, int count, int... keys) {
    pad(x, keys);
    return x.word(tongue, 1, count);
  }

  private static void words() {
    KeyDesk x = new KeyDesk();
    Due.is(x.word(3, 0, 0), -1);
    Due.is(x.word(-1, 1, 1), -1);
    Due.is(x.word(0, 0, 1), -2);
    Due.is(x.word(0, 1000, 1), -2);
    Due.is(x.word(0, 1, 0), -2);
    Due.is(x.word(0, 1, 101), -2);
    Due.is(x.word(0, 1, 1), -5);
    pad(x, 0, 1, 2, 3, 4, 5, 6, 7, 8);
    Due.is(x.word(0, 1, 1), -5);
    Due.is(x.word(0, 1000, 1), -2);
    Due.is(x.told(0), 9);
    pad(x, 0, 1, 2, 3, 4, 5, 6, 7);
    Due.is(x.word(0, 999, 100), 0);
    Due.is(x.told(0), 0);
    Due.is(x.told(5), 1);
    for (int n = 1; n < 60; n++) {
      Due.is(word(x, n % 3, 1, 0), n);
    }
    Due.is(x.word(0, 1, 1), -4);
    Due.is(x.word(0, 0, 1), -2);
    Due.is(word(x, 0, 1, 0), -4);
    Due.is(x.told(0), 1);
    Due.is(x.told(5), 60);
  }

  private static void ofWords() {
    KeyDesk x = new KeyDesk();
    Due.is(x.ofWord(0, 0), -1);
    pad(x, 11, 0, 7);
    x.word(2, 345, 67);
    pad(x, 1, 2, 3, 4, 5, 6, 7, 8);
    x.word(1, 999, 100);
    Due.is(x.ofWord(-1, 0), -1);
    Due.is(x.ofWord(2, 99), -1);
    Due.is(x.ofWord(0, 0), 2);
    Due.is(x.ofWord(0, 1), 345);
    Due.is(x.ofWord(0, 2), 67);
    Due.is(x.ofWord(0, 3), 3);
    Due.is(x.ofWord(0, 4), -2);
    Due.is(x.ofWord(0, 9), -2);
    Due.is(x.ofWord(0, -1), -2);
    Due.is(x.ofWord(0, 10), 11);
    Due.is(x.ofWord(0, 11), 0);
    Due.is(x.ofWord(0, 12), 7);
    Due.is(x.ofWord(0, 13), -6);
    Due.is(x.ofWord(1, 3), 8);
    Due.is(x.ofWord(1, 17), 8);
    Due.is(x.ofWord(1, 18), -6);
    Due.is(x.ofWord(1, Integer.MAX_VALUE), -6);
    Due.is(x.ofWord(1, Integer.MIN_VALUE), -2);
  }

  private static void counts() {
    KeyDesk x = new KeyDesk();
    Due.is(x.count(0, 1), -1);
    word(x, 0, 7, 1);
    word(x, 0, 9, 1);
    Due.is(x.count(2, 0), -1);
    Due.is(x.count(-1, 1), -1);
    Due.is(x.count(0, 0), -2);
    Due.is(x.count(0, 101), -2);
    Due.is(x.count(0, 100), 7);
    Due.is(x.count(0, 1), 100);
    Due.is(x.ofWord(0, 2), 1);
    Due.is(x.ofWord(1, 2), 9);
  }

  private static void prices() {
    KeyDesk x = new KeyDesk();
    Due.is(x.price(-1, 1), -2);
    Due.is(x.price(6, 1), -2);
    for (int which = 0; which < 5; which++) {
      Due.is(x.price(which, 0), -2);
      Due.is(x.price(which, 21), -2);
    }
    Due.is(x.price(5, -1), -2);
    Due.is(x.price(5, 21), -2);
    Due.is(x.price(0, 20), 3);
    Due.is(x.price(1, 19), 3);
    Due.is(x.price(2, 18), 4);
    Due.is(x.price(3, 17), 3);
    Due.is(x.price(4, 16), 6);
    Due.is(x.price(5, 0), 5);
    Due.is(x.price(0, 1), 20);
    Due.is(x.price(1, 1), 19);
    Due.is(x.price(2, 1), 18);
    Due.is(x.price(3, 1), 17);
    Due.is(x.price(4, 1), 16);
    Due.is(x.price(5, 20), 0);
    Due.is(x.price(5, 20), 20);
  }

  private static void slips() {
    KeyDesk x = new KeyDesk();
    Due.is(x.slip(0), -1);
    word(x, 0, 1, 5);
    word(x, 0, 1, 0, 3, 8, 11);
    Due.is(x.slip(2), -1);
    Due.is(x.slip(-1), -1);
    Due.is(x.slip(0), -3);
    int[] beside = {0, 1, 2, 4, 6, 8, 9, 10};
    for (int k : beside) {
      pad(x, k);
      Due.is(x.slip(0), 3);
    }
    int[] far = {3, 7, 11};
    for (int k : far) {
      pad(x, k);
      Due.is(x.slip(0), 6);
    }
    pad(x, 5);
    Due.is(x.slip(0), 0);
    Due.is(x.told(0), 1);
    pad(x, 5, 5);
    Due.is(x.slip(0), 3);
    pad(x, 5, 11);
    Due.is(x.slip(0), 6);
    // A row's end is not beside the next row's beginning: 3 and 4.
    word(x, 0, 1, 3);
    pad(x, 4);
    Due.is(x.slip(2), 6);
    pad(x, 3, 8, 11);
    Due.is(x.slip(1), 4);
    pad(x, 0);
    Due.is(x.slip(1), 12);
    // Two in the other order; not, if they are alike, or if another lies between.
    pad(x, 3, 0, 8, 11);
    Due.is(x.slip(1), 3);
    pad(x, 3, 0, 11, 8);
    Due.is(x.slip(1), 6);
    pad(x, 0, 11, 8, 3);
    Due.is(x.slip(1), 12);
    // Three alike: two too many, each of them told by what is struck just ahead.
    pad(x, 5, 5, 5);
    Due.is(x.slip(0), 6);
    // The KEY struck just ahead counts, not what became of it: 9 is too many, then 9 once more.
    pad(x, 5, 7, 7);
    Due.is(x.slip(0), 9);
    pad(x, 5, 7, 11);
    Due.is(x.slip(0), 12);
    pad(x, 0, 3, 8, 11, 11, 11, 11, 11, 11, 11, 11, 11, 11, 11, 11, 11);
    Due.is(x.slip(1), 36);
  }

  private static void slipsAtOtherPrices() {
    KeyDesk x = new KeyDesk();
    word(x, 0, 1, 0, 3);
    word(x, 0, 1, 5);
    x.price(3, 20);
    // 3 0 for 0 3: WRONG twice is 12; LEFT 0, then 3, and 0 too many is 4 and 6.
    pad(x, 3, 0);
    Due.is(x.slip(0), 10);
    x.price(2, 1);
    Due.is(x.slip(0), 7);
    x.price(4, 1);
    Due.is(x.slip(0), 2);
    x.price(3, 1);
    Due.is(x.slip(0), 1);
    // What lies BESIDE is never told as WRONG, though that is less; but it may be LEFT and too many.
    x.price(0, 20);
    x.price(2, 20);
    x.price(4, 4);
    pad(x, 6);
    Due.is(x.slip(1), 20);
    x.price(2, 1);
    Due.is(x.slip(1), 5);
    // Nor what is struck TWICE, though WRONG is less.
    x.price(1, 20);
    pad(x, 5, 5, 5);
    Due.is(x.slip(1), 24);
    // The first of two is too many, where that is less: none is struck ahead of it.
    pad(x, 5, 5);
    Due.is(x.slip(1), 4);
  }

  private static void guesses() {
    KeyDesk x = new KeyDesk();
    Due.is(x.guess(0, 3, 1), -2);
    Due.is(x.guess(8, 3, 1), -2);
    Due.is(x.guess(-1, 3, 1), -2);
    Due.is(x.guess(7, -1, 1), -2);
    Due.is(x.guess(7, 61, 1), -2);
    Due.is(x.guess(7, 60, -1), -3);
    pad(x, 5);
    Due.is(x.guess(7, 60, -1), 0);
    Due.is(x.guess(7, 60, 0), -6);
    word(x, 0, 5, 6);
    word(x, 1, 9, 6);
    word(x, 2, 1, 5);
    word(x, 0, 9, 9);
    word(x, 0, 100, 11);
    word(x, 0, 100, 0, 0, 11, 11, 11, 11, 11, 11);
    pad(x, 5);
    Due.is(x.guess(7, 0, -1), 1);
    Due.is(x.guess(7, 0, 0), 2);
    Due.is(x.guess(7, 2, -1), 1);
    Due.is(x.guess(7, 3, -1), 4);
    Due.is(x.guess(7, 3, 0), 2);
    Due.is(x.guess(7, 3, 1), 1);
    Due.is(x.guess(7, 3, 2), 3);
    Due.is(x.guess(7, 3, 3), 0);
    Due.is(x.guess(7, 3, 4), -6);
    Due.is(x.guess(7, 3, -2), -6);
    Due.is(x.guess(7, 60, -1), 6);
    Due.is(x.guess(7, 60, 4), 4);
    Due.is(x.guess(7, 60, 5), 5);
    Due.is(x.guess(7, 60, Integer.MAX_VALUE), -6);
    Due.is(x.guess(7, 30, -1), 5);
    Due.is(x.guess(1, 3, -1), 2);
    Due.is(x.guess(1, 3, 0), 3);
    Due.is(x.guess(2, 3, 0), 1);
    Due.is(x.guess(4, 3, 0), 2);
    Due.is(x.guess(6, 3, 1), 1);
    Due.is(x.guess(6, 3, 2), -6);
    x.count(0, 10);
    Due.is(x.guess(7, 3, 1), 0);
    Due.is(x.told(0), 1);
  }

  private static void row(KeyDesk x, int tongues, int sum, int... wordsAndLengths) {
    Due.is(x.part(tongues, -1), sum);
    Due.is(x.part(tongues, -2), wordsAndLengths.length / 2);
    for (int i = 0; i < wordsAndLengths.length / 2; i++) {
      Due.is(x.part(tongues, i), wordsAndLengths[2 * i]);
      Due.is(x.pieceOf(tongues, i), wordsAndLengths[2 * i + 1]);
    }
    Due.is(x.part(tongues, wordsAndLengths.length / 2), -6);
    Due.is(x.pieceOf(tongues, wordsAndLengths.length / 2), -6);
  }

  private static void parted() {
    KeyDesk x = new KeyDesk();
    Due.is(x.part(0, -1), -2);
    Due.is(x.part(8, -1), -2);
    Due.is(x.pieceOf(0, 0), -2);
    Due.is(x.pieceOf(8, 0), -2);
    Due.is(x.part(7, -1), -3);
    Due.is(x.pieceOf(7, 0), -3);
    pad(x, 1);
    Due.is(x.part(7, -1), -5);
    Due.is(x.part(7, 0), -5);
    Due.is(x.part(7, -3), -5);
    Due.is(x.pieceOf(7, 0), -5);
    word(x, 0, 2, 0, 3);
    word(x, 1, 3, 8, 11);
    word(x, 2, 4, 8, 11);
    pad(x, 0, 3, 8, 11);
    row(x, 7, 5, 0, 2, 2, 2);
    row(x, 3, 5, 0, 2, 1, 2);
    Due.is(x.part(7, -3), -6);
    Due.is(x.pieceOf(7, -1), -6);
    Due.is(x.pieceOf(7, -2), -6);
    Due.is(x.told(0), 4);
    // SWITCH stands between unlike TONGUES alone: at 4, and not 3, the one of its own is as dear.
    x.price(5, 0);
    row(x, 7, 0, 0, 2, 2, 2);
    pad(x, 8, 11, 0, 3, 8, 11);
    x.price(5, 5);
    row(x, 5, 10, 2, 2, 0, 2, 2, 2);
    // Without the first TONGUE 0 3 is told as 8 11, WRONG twice: the product of three COUNTS is the greatest.
    row(x, 6, 12, 2, 2, 2, 2, 2, 2);
    row(x, 2, 12, 1, 2, 1, 2, 1, 2);
    // A SWITCH of 7 twice is dearer than that.
    x.price(5, 7);
    row(x, 7, 12, 2, 2, 2, 2, 2, 2);
  }

  private static void partedOfLikeSums() {
    KeyDesk x = new KeyDesk();
    // Of like sums the greatest product of COUNTS.
    word(x, 0, 5, 1, 2);
    word(x, 0, 2, 1);
    word(x, 0, 3, 2);
    pad(x, 1, 2);
    row(x, 1, 0, 1, 1, 2, 1);
    // Of like products the fewest WORDS.
    x.count(0, 6);
    row(x, 1, 0, 0, 2);
    x.count(0, 7);
    row(x, 1, 0, 0, 2);
    // Then the number of the first WORD, and its KEYS.
    KeyDesk y = new KeyDesk();
    word(y, 0, 4, 1, 1);
    word(y, 0, 4, 1);
    pad(y, 1, 1, 1);
    row(y, 1, 0, 1, 1, 1, 1, 1, 1);
    y.count(1, 1);
    row(y, 1, 0, 0, 2, 1, 1);
    KeyDesk z = new KeyDesk();
    word(z, 0, 1, 7);
    word(z, 0, 1, 7);
    z.price(1, 1);
    pad(z, 7, 7, 7);
    row(z, 1, 0, 0, 1, 0, 1, 0, 1);
    pad(z, 7, 7, 7, 7, 7);
    row(z, 1, 1, 0, 1, 0, 1, 0, 1, 0, 2);
    z.count(0, 100);
    z.count(1, 100);
    row(z, 1, 1, 0, 1, 0, 1, 0, 1, 0, 2);
  }

  private static void partedAtTheEdges() {
    KeyDesk x = new KeyDesk();
    word(x, 1, 1, 0, 1, 2, 3, 4, 5, 6, 7);
    pad(x, 0, 1, 2, 3, 4, 5, 6, 7, 11, 11);
    // One piece of 10 KEYS: WRONG and TWICE.
    row(x, 2, 9, 0, 10);
    x.key(11);
    // 11 KEYS are too many for a piece.
    Due.is(x.part(2, -2), 2);
    for (int n = 12; n <= 16; n++) {
      x.key(n % 2);
    }
    Due.is(x.part(2, -2) >= 2 ? 1 : 0, 1);
    Due.is(x.part(2, 4), -6);
    // At the greatest prices for one KEY that is struck 16 times: 1 and 3 for each that is too many.
    KeyDesk y = new KeyDesk();
    word(y, 0, 100, 5);
    pad(y, 5, 5, 5, 5, 5, 5, 5, 5, 5, 5, 5, 5, 5, 5, 5, 5);
    row(y, 1, 36, 0, 1, 0, 1, 0, 4, 0, 10);
    // A piece's first KEY has none struck just ahead.
    KeyDesk z = new KeyDesk();
    word(z, 0, 1, 5, 11);
    word(z, 0, 1, 11);
    pad(z, 5, 11, 11);
    row(z, 1, 0, 0, 2, 1, 1);
    // So the second 6 is TWICE in the first piece alone, though the second piece would make the first one shorter.
    KeyDesk v = new KeyDesk();
    word(v, 0, 1, 5, 6);
    word(v, 0, 1, 11);
    pad(v, 5, 6, 6, 11);
    row(v, 1, 3, 0, 3, 1, 1);
  }

  private static void pairs() {
    KeyDesk x = new KeyDesk();
    Due.is(x.both(0, 0, 1), -1);
    for (int n = 0; n < 42; n++) {
      word(x, 0, 1, n % 12);
    }
    Due.is(x.both(42, 0, 1), -1);
    Due.is(x.both(0, 42, 101), -1);
    Due.is(x.both(-1, 0, 1), -1);
    Due.is(x.both(0, -1, 1), -1);
    Due.is(x.both(0, 1, -1), -2);
    Due.is(x.both(0, 1, 101), -2);
    Due.is(x.both(0, 1, 0), 0);
    Due.is(x.told(6), 0);
    Due.is(x.both(0, 1, 100), 0);
    Due.is(x.both(1, 0, 1), 0);
    Due.is(x.both(0, 1, 7), 100);
    Due.is(x.both(0, 0, 3), 0);
    Due.is(x.told(6), 3);
    for (int n = 4; n <= 40; n++) {
      Due.is(x.both(n, 0, 5), 0);
    }
    Due.is(x.told(6), 40);
    Due.is(x.both(41, 0, 5), -4);
    Due.is(x.both(41, 0, 1), -4);
    Due.is(x.both(41, 0, 101), -2);
    Due.is(x.both(41, 0, 0), 0);
    Due.is(x.both(40, 0, 6), 5);
    Due.is(x.both(40, 0, 0), 6);
    Due.is(x.both(40, 0, 0), 0);
    Due.is(x.told(6), 39);
    Due.is(x.both(41, 0, 1), 0);
    Due.is(x.told(6), 40);
    Due.is(x.both(41, 0, 0), 1);
    Due.is(x.told(6), 39);
  }

  private static void said() {
    KeyDesk x = new KeyDesk();
    Due.is(x.say(0, true), -1);
    word(x, 0, 1, 1);
    Due.is(x.say(1, true), -1);
    Due.is(x.say(-1, true), -1);
    for (int n = 1; n <= 5; n++) {
      Due.is(x.say(0, n % 2 == 0), n);
    }
    Due.is(x.say(0, true), -4);
    Due.is(x.say(1, true), -1);
    Due.is(x.told(2), 5);
  }

  private static void choice(KeyDesk x, long product, int... words) {
    for (int i = 0; i < words.length; i++) {
      Due.is(x.chosen(i), words[i]);
    }
    Due.is(x.product(), product);
    Due.is(x.chosen(words.length), -6);
    Due.is(x.chosen(-1), -6);
  }

  private static void chosen() {
    KeyDesk x = new KeyDesk();
    choice(x, 0);
    word(x, 0, 5, 1, 2);
    word(x, 1, 99, 1, 2);
    word(x, 0, 99, 2, 1);
    word(x, 0, 5, 1, 2);
    word(x, 0, 4, 1, 2);
    word(x, 0, 99, 1);
    x.say(4, false);
    // The first of like ones; no WORD of another TONGUE or with other KEYS.
    choice(x, 5, 0);
    x.count(3, 6);
    choice(x, 6, 3);
    x.wipe(2);
    x.say(4, true);
    choice(x, 4, 4);
    // What stands behind chooses what stands ahead.
    x.wipe(2);
    x.say(0, false);
    x.say(1, false);
    choice(x, 6 * 99, 3, 1);
    x.both(4, 1, 1);
    choice(x, 4 * 99 * 2, 4, 1);
    x.both(1, 4, 50);
    choice(x, 4 * 99 * 2, 4, 1);
    x.count(0, 8);
    choice(x, 4 * 99 * 2, 0, 1);
    x.wipe(2);
    x.say(3, true);
    x.say(1, false);
    choice(x, 6 * 99, 3, 1);
    // What was FIXED is wiped with the PAD.
    x.wipe(2);
    x.say(3, false);
    choice(x, 8, 0);
    // A chain: the middle one serves both neighbours, the WORD may stand behind itself.
    x.wipe(2);
    x.say(3, false);
    x.say(3, false);
    x.say(3, false);
    x.both(4, 4, 3);
    choice(x, 4 * 4 * 4 * 4 * 4, 4, 4, 4);
    x.both(0, 4, 4);
    choice(x, 8 * 5 * 4 * 4 * 4, 0, 4, 4);
  }

  private static void greatestProduct() {
    KeyDesk x = new KeyDesk();
    word(x, 0, 100, 1);
    x.both(0, 0, 100);
    for (int n = 0; n < 5; n++) {
      x.say(0, false);
    }
    choice(x, 10_000_000_000L * 104_060_401L, 0, 0, 0, 0, 0);
    // The first by numbers, place by place: 0 2 and 1 1 are alike.
    KeyDesk y = new KeyDesk();
    word(y, 0, 2, 1);
    word(y, 0, 2, 1);
    word(y, 0, 2, 1);
    y.both(1, 1, 3);
    y.both(0, 2, 3);
    y.say(2, false);
    y.say(2, false);
    choice(y, 16, 0, 2);
    y.both(0, 2, 2);
    choice(y, 16, 1, 1);
    // At a product of 1 no other SOUND slips in.
    KeyDesk z = new KeyDesk();
    word(z, 0, 1, 1);
    word(z, 0, 1, 2);
    z.say(1, false);
    choice(z, 1, 1);
    z.say(1, false);
    z.say(1, true);
    choice(z, 1, 1, 1, 1);
  }

  /** 60 WORDS, 40 pairs, full PADS, and the greatest PRICES, within 512 calls. */
  private static void fullOfWords() {
    KeyDesk x = new KeyDesk();
    for (int n = 0; n < 60; n++) {
      for (int k : new int[] {11, 3, 11, 3}) {
        x.key(k);
      }
      Due.is(x.word(n % 3, 1, n % 3 == 0 ? 100 : 1 + n), n);
    }
    for (int which = 0; which < 6; which++) {
      x.price(which, 20);
    }
    for (int n = 0; n < 40; n++) {
      Due.is(x.both(57, n, 100), 0);
    }
    for (int n = 0; n < 16; n++) {
      x.key(0);
    }
    // 4 KEYS are WRONG, 12 more are struck TWICE.
    for (int w = 0; w < 60; w += 7) {
      Due.is(x.slip(w), 320);
    }
    Due.is(x.guess(7, 60, -1), 0);
    row(x, 7, 320, 0, 4, 0, 4, 0, 4, 0, 4);
    pad(x, 11, 3, 11, 3, 11, 3, 11, 3, 11, 3, 11, 3, 11, 3, 11, 3);
    row(x, 7, 0, 0, 4, 0, 4, 0, 4, 0, 4);
    row(x, 6, 0, 59, 4, 59, 4, 59, 4, 59, 4);
    x.wipe(0);
    x.key(11);
    x.price(2, 1);
    Due.is(x.guess(7, 7, -1), 60);
    Due.is(x.guess(7, 7, 0), 0);
    Due.is(x.guess(7, 7, 19), 57);
    Due.is(x.guess(7, 7, 20), 59);
    Due.is(x.guess(7, 7, 59), 1);
    Due.is(x.guess(7, 7, 60), -6);
    for (int n = 0; n < 5; n++) {
      x.say(57, false);
    }
    // 57 has come ahead of 0 to 39, those ahead of none: of 0 57 0 57 0 and 57 0 57 0 0 the first.
    choice(x, 10_000_000_000L * 101 * 101, 0, 57, 0, 57, 0);
    x.wipe(2);
    x.say(59, false);
    choice(x, 60, 59);
  }
}
