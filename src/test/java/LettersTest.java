/** Promises 1 to 17: a new object, PADS, RULES, JOINS, THE LINE. */
public final class LettersTest {
  public static void main(String[] args) {
    newObject();
    keys();
    letters();
    wipes();
    rules();
    joins();
    ownLetters();
    quarrels();
    idleRules();
    missingLetters();
    tongueOfLine();
    strokes();
    signs();
    joinedSigns();
    pieces();
    couldCome();
    fullTongue();
    Due.end();
  }

  /** A RULE of these KEYS, that makes these LETTERS. */
  private static int rule(KeyDesk x, int tongue, int[] keys, int... letters) {
    x.wipe(0);
    x.wipe(1);
    for (int k : keys) {
      x.key(k);
    }
    for (int l : letters) {
      x.letter(l);
    }
    return x.rule(tongue);
  }

  private static int[] row(int... numbers) {
    return numbers;
  }

  private static void line(KeyDesk x, int... strokes) {
    while (x.told(4) > 0) {
      x.back(0);
    }
    for (int i = 0; i < strokes.length; i++) {
      x.strike(i, strokes[i]);
    }
  }

  private static void stands(KeyDesk x, int... signs) {
    Due.is(x.stands(-1), signs.length);
    for (int i = 0; i < signs.length; i++) {
      Due.is(x.stands(i), signs[i]);
    }
    Due.is(x.stands(signs.length), -1006);
  }

  private static void pieces(KeyDesk x, int... pieces) {
    Due.is(x.piece(-1), pieces.length);
    for (int i = 0; i < pieces.length; i++) {
      Due.is(x.piece(i), pieces[i]);
    }
    Due.is(x.piece(pieces.length), -6);
  }

  private static void newObject() {
    KeyDesk x = new KeyDesk();
    for (int what = 0; what <= 7; what++) {
      Due.is(x.told(what), 0);
    }
    Due.is(x.told(8), 4);
    for (int t = 0; t < 3; t++) {
      Due.is(x.told(10 + t), 0);
      Due.is(x.told(20 + t), 0);
      Due.is(x.missing(t, -1), 0);
      Due.is(x.quarrel(t, -1), 0);
      Due.is(x.idle(t, 0), 0);
      Due.is(x.idle(t, 1), 4095);
    }
    for (int h = 0; h < 4; h++) {
      Due.is(x.told(30 + h), 100);
    }
    Due.is(x.stands(-1), 0);
    Due.is(x.piece(-1), 0);
    Due.is(x.could(), 0);
    Due.is(x.price(0, 1), 3);
    Due.is(x.price(1, 1), 3);
    Due.is(x.price(2, 1), 4);
    Due.is(x.price(3, 1), 3);
    Due.is(x.price(4, 1), 6);
    Due.is(x.price(5, 1), 5);
    Due.is(x.fade(1), 900);
    Due.is(x.seed(2), 1);
    Due.is(x.same(1), 5);
    Due.is(x.set(0, 3, 2), 1);
    Due.is(x.set(1, 3, 2), 0);
    Due.is(x.set(2, 3, 2), 0);
    Due.is(x.pair(3, 0, 1), 0);
    Due.is(x.product(), 0);
  }

  private static void keys() {
    KeyDesk x = new KeyDesk();
    Due.is(x.key(-1), -2);
    Due.is(x.key(12), -2);
    Due.is(x.key(Integer.MIN_VALUE), -2);
    Due.is(x.key(Integer.MAX_VALUE), -2);
    Due.is(x.told(0), 0);
    Due.is(x.key(0), 1);
    Due.is(x.key(11), 2);
    for (int n = 3; n <= 16; n++) {
      Due.is(x.key(5), n);
    }
    Due.is(x.key(5), -4);
    Due.is(x.key(12), -2);
    Due.is(x.told(0), 16);
    Due.is(x.told(1), 0);
  }

  private static void letters() {
    KeyDesk x = new KeyDesk();
    Due.is(x.letter(0), -2);
    Due.is(x.letter(61), -2);
    Due.is(x.letter(-7), -2);
    Due.is(x.letter(1), 1);
    Due.is(x.letter(60), 2);
    Due.is(x.letter(60), 3);
    Due.is(x.letter(2), -4);
    Due.is(x.letter(61), -2);
    Due.is(x.told(1), 3);
    Due.is(x.told(0), 0);
  }

  private static void wipes() {
    KeyDesk x = new KeyDesk();
    Due.is(x.wipe(-1), -2);
    Due.is(x.wipe(3), -2);
    Due.is(x.wipe(0), 0);
    x.key(1);
    x.key(2);
    x.letter(1);
    Due.is(x.wipe(2), 0);
    Due.is(x.wipe(1), 1);
    Due.is(x.told(0), 2);
    Due.is(x.wipe(1), 0);
    Due.is(x.wipe(0), 2);
    Due.is(x.told(0), 0);
    x.key(1);
    x.word(0, 1, 1);
    x.key(1);
    x.say(0, true);
    x.say(0, false);
    Due.is(x.wipe(2), 2);
    Due.is(x.told(2), 0);
    Due.is(x.told(0), 1);
  }

  private static void rules() {
    KeyDesk x = new KeyDesk();
    Due.is(x.rule(-1), -1);
    Due.is(x.rule(3), -1);
    Due.is(x.rule(0), -5);
    x.key(3);
    Due.is(x.rule(0), -5);
    Due.is(x.told(0), 1);
    x.wipe(0);
    x.letter(3);
    Due.is(x.rule(0), -5);
    Due.is(x.told(1), 1);
    for (int i = 0; i < 5; i++) {
      x.key(i);
    }
    Due.is(x.rule(0), -5);
    Due.is(x.rule(3), -1);
    Due.is(x.told(0), 5);
    Due.is(x.told(1), 1);
    x.wipe(0);
    for (int i = 0; i < 4; i++) {
      x.key(i);
    }
    Due.is(x.rule(0), 0);
    Due.is(x.told(0), 0);
    Due.is(x.told(1), 0);
    Due.is(rule(x, 2, row(1), 1, 2, 3), 0);
    for (int n = 1; n < 24; n++) {
      Due.is(rule(x, 0, row(n % 12), 1), n);
    }
    Due.is(x.told(10), 24);
    Due.is(x.told(11), 0);
    Due.is(x.told(12), 1);
    // FULL is told ahead of NO.
    Due.is(x.rule(0), -4);
    Due.is(rule(x, 0, row(1), 1), -4);
    Due.is(x.told(0), 1);
    Due.is(x.told(1), 1);
    Due.is(x.rule(1), 0);
  }

  private static void joins() {
    KeyDesk x = new KeyDesk();
    Due.is(x.join(3, 0, 1, 1), -1);
    Due.is(x.join(-1, 1, 1, 1), -1);
    Due.is(x.join(0, 0, 1, 1), -2);
    Due.is(x.join(0, 1, 61, 1), -2);
    Due.is(x.join(0, 1, 1, 0), -2);
    Due.is(x.join(0, 1, 1, 61), -2);
    for (int n = 1; n <= 12; n++) {
      Due.is(x.join(1, n, 60, 1), n);
    }
    Due.is(x.join(1, 1, 1, 1), -4);
    Due.is(x.join(1, 1, 0, 1), -2);
    Due.is(x.join(2, 60, 1, 60), 1);
    Due.is(x.told(20), 0);
    Due.is(x.told(21), 12);
    Due.is(x.told(22), 1);
  }

  private static void ownLetters() {
    KeyDesk x = new KeyDesk();
    Due.is(x.own(3, 1, true), -1);
    Due.is(x.own(-1, 0, true), -1);
    Due.is(x.own(0, 0, true), -2);
    Due.is(x.own(0, 61, false), -2);
    Due.is(x.own(0, 60, false), 0);
    Due.is(x.own(0, 60, true), 0);
    Due.is(x.own(0, 60, true), 1);
    Due.is(x.own(1, 60, false), 0);
    Due.is(x.own(0, 60, false), 1);
    Due.is(x.own(0, 60, false), 0);
    Due.is(x.own(2, 1, true), 0);
    Due.is(x.own(2, 1, false), 1);
  }

  private static void quarrels() {
    KeyDesk x = new KeyDesk();
    Due.is(x.quarrel(3, -1), -1);
    Due.is(x.quarrel(-1, 0), -1);
    rule(x, 1, row(1, 2), 5);
    rule(x, 1, row(1, 2), 5);
    rule(x, 1, row(2, 1), 6);
    rule(x, 1, row(1, 2), 5, 6);
    rule(x, 1, row(1, 2), 6, 5);
    rule(x, 1, row(1, 2, 2), 6, 5);
    rule(x, 1, row(1), 6, 5);
    Due.is(x.quarrel(1, -1), 5);
    Due.is(x.quarrel(1, 0), 3);
    Due.is(x.quarrel(1, 1), 4);
    Due.is(x.quarrel(1, 2), 103);
    Due.is(x.quarrel(1, 3), 104);
    Due.is(x.quarrel(1, 4), 304);
    Due.is(x.quarrel(1, 5), -6);
    Due.is(x.quarrel(1, -2), -6);
    Due.is(x.quarrel(1, Integer.MIN_VALUE), -6);
    Due.is(x.quarrel(0, -1), 0);
    Due.is(x.quarrel(0, 0), -6);
    KeyDesk y = new KeyDesk();
    for (int n = 0; n < 24; n++) {
      rule(y, 0, row(7), 1 + n);
    }
    Due.is(y.quarrel(0, -1), 276);
    Due.is(y.quarrel(0, 275), 2223);
    Due.is(y.quarrel(0, 276), -6);
  }

  private static void idleRules() {
    KeyDesk x = new KeyDesk();
    Due.is(x.idle(3, 0), -1);
    Due.is(x.idle(-1, 2), -1);
    Due.is(x.idle(0, 2), -2);
    Due.is(x.idle(0, -1), -2);
    rule(x, 0, row(0), 1);
    Due.is(x.idle(0, 0), 0);
    Due.is(x.idle(0, 1), 4094);
    rule(x, 0, row(0, 11), 1);
    rule(x, 0, row(0), 1);
    rule(x, 0, row(11, 0), 1);
    rule(x, 0, row(0), 2);
    rule(x, 0, row(0, 11), 1);
    Due.is(x.idle(0, 0), 4 + 16 + 32);
    Due.is(x.idle(0, 1), 4095 - 1 - 2048);
    Due.is(x.idle(1, 0), 0);
    Due.is(x.idle(1, 1), 4095);
    for (int n = 6; n < 24; n++) {
      rule(x, 0, row(n - 6 < 12 ? n - 6 : 11), 1);
    }
    Due.is(x.idle(0, 1), 0);
    Due.is(x.idle(0, 0) >> 23, 1);
  }

  private static void missingLetters() {
    KeyDesk x = new KeyDesk();
    Due.is(x.missing(3, -1), -1);
    Due.is(x.missing(-1, 5), -1);
    for (int l : row(1, 2, 3, 4, 5, 6, 7, 8, 60)) {
      x.own(0, l, true);
    }
    Due.is(x.missing(0, -1), 9);
    Due.is(x.missing(0, 8), 60);
    Due.is(x.missing(0, 9), -6);
    Due.is(x.missing(0, -2), -6);
    rule(x, 0, row(1), 1, 2);
    rule(x, 0, row(1), 8);
    Due.is(x.missing(0, -1), 7);
    Due.is(x.missing(0, 0), 3);
    // A chain told backwards: 1 and 2 make 3, 3 and 1 make 4, 4 and 4 make 5.
    x.join(0, 4, 4, 5);
    x.join(0, 3, 1, 4);
    Due.is(x.missing(0, -1), 7);
    x.join(0, 1, 2, 3);
    Due.is(x.missing(0, -1), 4);
    Due.is(x.missing(0, 0), 6);
    Due.is(x.missing(0, 1), 7);
    Due.is(x.missing(0, 2), 8);
    Due.is(x.missing(0, 3), 60);
    x.join(0, 7, 1, 6);
    x.join(0, 1, 7, 60);
    Due.is(x.missing(0, -1), 4);
    x.own(0, 7, false);
    Due.is(x.missing(0, -1), 3);
    Due.is(x.missing(1, -1), 0);
    x.own(1, 1, true);
    Due.is(x.missing(1, 0), 1);
  }

  private static void tongueOfLine() {
    KeyDesk x = new KeyDesk();
    rule(x, 0, row(1), 10);
    rule(x, 2, row(1), 30);
    line(x, 1);
    Due.is(x.stands(0), 10);
    Due.is(x.speak(3), -1);
    Due.is(x.speak(-1), -1);
    Due.is(x.told(3), 0);
    Due.is(x.speak(2), 0);
    Due.is(x.stands(0), 30);
    Due.is(x.piece(0), 0);
    Due.is(x.told(3), 2);
    Due.is(x.speak(1), 2);
    Due.is(x.stands(0), -2);
    Due.is(x.speak(1), 1);
    Due.is(x.told(4), 1);
  }

  private static void strokes() {
    KeyDesk x = new KeyDesk();
    Due.is(x.strike(-1, 1), -2);
    Due.is(x.strike(1, 1), -2);
    Due.is(x.strike(0, 12), -2);
    Due.is(x.strike(0, -1), -2);
    Due.is(x.change(0, 1), -2);
    Due.is(x.back(0), -2);
    Due.is(x.strike(0, 11), 1);
    Due.is(x.strike(0, 0), 2);
    Due.is(x.strike(1, 5), 3);
    Due.is(x.strike(3, 6), 4);
    stands(x, -1, -6, -12, -7);
    Due.is(x.change(1, 12), -2);
    Due.is(x.change(1, -1), -2);
    Due.is(x.change(4, 1), -2);
    Due.is(x.change(-1, 1), -2);
    Due.is(x.change(1, 7), 5);
    Due.is(x.change(3, 0), 6);
    stands(x, -1, -8, -12, -1);
    Due.is(x.back(4), -2);
    Due.is(x.back(-1), -2);
    Due.is(x.back(1), 7);
    Due.is(x.back(2), 0);
    stands(x, -1, -12);
    for (int n = 3; n <= 40; n++) {
      Due.is(x.strike(n - 1, 2), n);
    }
    Due.is(x.strike(0, 2), -4);
    Due.is(x.strike(40, 2), -4);
    Due.is(x.strike(41, 2), -2);
    Due.is(x.strike(0, 12), -2);
    Due.is(x.told(4), 40);
    Due.is(x.change(39, 3), 2);
    Due.is(x.stands(39), -4);
    Due.is(x.stands(40), -1006);
    Due.is(x.back(39), 3);
    Due.is(x.told(4), 39);
  }

  private static void signs() {
    KeyDesk x = new KeyDesk();
    Due.is(x.stands(-2), -1002);
    Due.is(x.stands(Integer.MIN_VALUE), -1002);
    Due.is(x.stands(0), -1006);
    rule(x, 0, row(1, 2), 20);
    rule(x, 0, row(1), 10);
    rule(x, 0, row(1, 2, 3, 4), 30, 31, 32);
    rule(x, 0, row(1, 2), 21);
    rule(x, 0, row(2, 3), 40);
    // The longest one goes ahead, of like ones the first told; what is begun, but not whole, is none.
    line(x, 1, 2, 3, 4, 1, 2, 3);
    stands(x, 30, 31, 32, 20, -4);
    pieces(x, 200, 4, 9906);
    line(x, 1, 1, 2, 3, 4);
    stands(x, 10, 30, 31, 32);
    line(x, 2, 1);
    stands(x, -3, 10);
    line(x, 2, 3, 3);
    stands(x, 40, -4);
    // The greatest row of signs: 40 strokes of 3 LETTERS each.
    KeyDesk y = new KeyDesk();
    rule(y, 0, row(9), 1, 2, 3);
    for (int n = 0; n < 40; n++) {
      y.strike(n, 9);
    }
    Due.is(y.stands(-1), 120);
    Due.is(y.stands(119), 3);
    Due.is(y.stands(120), -1006);
  }

  private static void joinedSigns() {
    KeyDesk x = new KeyDesk();
    for (int k = 0; k < 6; k++) {
      rule(x, 0, row(k), k + 1);
    }
    rule(x, 0, row(6), 1, 2, 7);
    rule(x, 0, row(7), 1, 2);
    x.join(0, 1, 2, 3);
    x.join(0, 1, 2, 4);
    x.join(0, 5, 3, 6);
    x.join(0, 3, 7, 8);
    x.join(0, 4, 4, 4);
    line(x, 0, 1);
    stands(x, 3);
    line(x, 1, 0);
    stands(x, 2, 1);
    // What became is joined again with what is ahead.
    line(x, 4, 0, 1);
    stands(x, 6);
    line(x, 4, 0, 8, 1);
    stands(x, 5, 1, -9, 2);
    // LETTERS of one RULE join among themselves, too.
    line(x, 4, 6);
    stands(x, 6, 7);
    line(x, 6);
    stands(x, 8);
    line(x, 7, 0, 1);
    stands(x, 3, 3);
    line(x, 3, 3, 3, 3, 3);
    stands(x, 4);
    // JOINS are those of the TONGUE of THE LINE.
    x.speak(1);
    rule(x, 1, row(0), 1);
    rule(x, 1, row(1), 2);
    line(x, 0, 1);
    stands(x, 1, 2);
    // What becomes may be what it was: it ends where nothing is ahead.
    x.join(1, 1, 1, 1);
    line(x, 0, 0, 0, 0, 1, 0);
    stands(x, 1, 2, 1);
  }

  private static void pieces() {
    KeyDesk x = new KeyDesk();
    pieces(x);
    Due.is(x.piece(-2), -6);
    rule(x, 0, row(0), 1);
    rule(x, 0, row(0, 1, 0), 2);
    rule(x, 0, row(5, 5), 3);
    line(x, 0, 1, 0, 0, 5, 5, 5, 0);
    pieces(x, 100, 3, 204, 9906, 7);
    Due.is(x.piece(-2), -6);
    Due.is(x.piece(Integer.MIN_VALUE), -6);
    // JOINS make fewer signs, not fewer PIECES.
    x.join(0, 2, 1, 9);
    pieces(x, 100, 3, 204, 9906, 7);
    x.strike(0, 11);
    pieces(x, 9900, 101, 4, 205, 9907, 8);
    for (int n = 23; n > 2; n--) {
      rule(x, 0, row(9), n);
    }
    line(x, 9, 0);
    pieces(x, 300, 1);
  }

  private static void couldCome() {
    KeyDesk x = new KeyDesk();
    rule(x, 0, row(3), 1);
    rule(x, 0, row(3, 4, 5), 2);
    rule(x, 0, row(11), 3);
    rule(x, 0, row(3, 0), 3);
    rule(x, 0, row(6, 7, 8, 9), 3);
    Due.is(x.could(), 8 + 64 + 2048);
    line(x, 3);
    Due.is(x.could(), 1 + 16);
    // The row 3 4 is no RULE: PIECES are 3, and 4 RAW, which begins none.
    line(x, 3, 4);
    Due.is(x.could(), 0);
    line(x, 3, 4, 5);
    Due.is(x.could(), 0);
    line(x, 3, 0, 3);
    Due.is(x.could(), 1 + 16);
    line(x, 11, 6);
    Due.is(x.could(), 128);
    line(x, 6, 7);
    Due.is(x.could(), 0);
    line(x, 6, 7, 8, 9);
    Due.is(x.could(), 0);
    x.speak(2);
    Due.is(x.could(), 0);
    line(x);
    Due.is(x.could(), 0);
    rule(x, 2, row(0, 1, 2), 1);
    rule(x, 2, row(0, 1), 1);
    Due.is(x.could(), 1);
    line(x, 0, 1);
    Due.is(x.could(), 4);
  }

  /** A TONGUE with 24 RULES of 4 KEYS and 12 JOINS, THE LINE with 40 strokes: some 400 calls for each. */
  private static void fullTongue() {
    for (int t = 0; t < 3; t++) {
      KeyDesk x = new KeyDesk();
      for (int n = 0; n < 24; n++) {
        Due.is(rule(x, t, row(n / 12, 1, 2, n % 12), 1 + n, 25 + n, 49), n);
      }
      for (int n = 1; n <= 12; n++) {
        Due.is(x.join(t, 47 + n, 1, 48 + n), n);
      }
      for (int l = 1; l <= 60; l++) {
        x.own(t, l, true);
      }
      Due.is(x.quarrel(t, -1), 0);
      Due.is(x.idle(t, 0), 0);
      Due.is(x.idle(t, 1), 0);
      Due.is(x.missing(t, -1), 0);
      x.speak(t);
      line(x);
      Due.is(x.could(), 3);
      for (int i = 0; i < 40; i++) {
        x.strike(i, i % 4 == 3 ? 11 : i % 4);
      }
      // 12, 36 and 49 each time, and 49 joins nothing but a 1 behind it.
      Due.is(x.stands(-1), 30);
      Due.is(x.stands(29), 49);
      Due.is(x.stands(27), 12);
      Due.is(x.piece(-1), 10);
      Due.is(x.piece(9), 1136);
      Due.is(x.could(), 0);
      x.change(39, 0);
      // 1, behind 49, makes 50 of both.
      Due.is(x.stands(-1), 29);
      Due.is(x.stands(26), 50);
      Due.is(x.piece(9), 36);
      x.back(39);
      Due.is(x.piece(-1), 12);
      Due.is(x.could(), 0);
      x.back(38);
      x.back(37);
      Due.is(x.could(), 2);
    }
  }
}
