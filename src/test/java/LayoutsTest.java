/** Promises 38 to 47: LAYOUTS, and what is told. */
public final class LayoutsTest {
  public static void main(String[] args) {
    symbols();
    sets();
    pairs();
    sames();
    costs();
    bests();
    bounds();
    betters();
    ways();
    waysOfLikePeaks();
    told();
    Due.end();
  }

  private static void symbols() {
    KeyDesk x = new KeyDesk();
    Due.is(x.symbols(1), -2);
    Due.is(x.symbols(8), -2);
    Due.is(x.symbols(-3), -2);
    Due.is(x.told(8), 4);
    Due.is(x.symbols(7), 4);
    Due.is(x.symbols(2), 7);
    Due.is(x.told(8), 2);
    x.set(0, 1, 9);
    x.set(1, 1, 3);
    x.set(2, 1, 8);
    x.pair(0, 1, 7);
    x.same(11);
    Due.is(x.symbols(2), 2);
    Due.is(x.set(0, 1, 1), 1);
    Due.is(x.set(1, 1, 0), 0);
    Due.is(x.set(2, 1, 0), 0);
    Due.is(x.pair(0, 1, 0), 0);
    Due.is(x.same(5), 11);
    // What is refused changes nothing.
    x.set(0, 1, 9);
    Due.is(x.symbols(9), -2);
    Due.is(x.set(0, 1, 1), 9);
    // Fewer, then more again: nothing stays.
    x.symbols(7);
    x.set(2, 6, 5);
    x.pair(6, 0, 5);
    x.symbols(3);
    x.symbols(7);
    Due.is(x.set(2, 6, 0), 0);
    Due.is(x.pair(6, 0, 0), 0);
  }

  private static void sets() {
    KeyDesk x = new KeyDesk();
    Due.is(x.set(0, 4, 1), -1);
    Due.is(x.set(0, -1, 1), -1);
    Due.is(x.set(3, 4, 1), -1);
    Due.is(x.set(3, 0, 0), -2);
    Due.is(x.set(-1, 0, 0), -2);
    Due.is(x.set(0, 0, 21), -2);
    Due.is(x.set(0, 0, -1), -2);
    Due.is(x.set(1, 0, 5), -2);
    Due.is(x.set(1, 0, -1), -2);
    Due.is(x.set(2, 0, 100), -2);
    Due.is(x.set(2, 0, -1), -2);
    Due.is(x.set(0, 0, 20), 1);
    Due.is(x.set(0, 0, 0), 20);
    Due.is(x.set(1, 0, 4), 0);
    Due.is(x.set(1, 0, 0), 4);
    Due.is(x.set(2, 0, 99), 0);
    Due.is(x.set(2, 0, 0), 99);
    Due.is(x.set(0, 3, 5), 1);
    Due.is(x.set(0, 0, 1), 0);
    x.symbols(2);
    Due.is(x.set(0, 2, 1), -1);
    x.symbols(7);
    Due.is(x.set(0, 6, 2), 1);
    Due.is(x.set(0, 7, 2), -1);
  }

  private static void pairs() {
    KeyDesk x = new KeyDesk();
    Due.is(x.pair(4, 0, 1), -1);
    Due.is(x.pair(0, 4, 51), -1);
    Due.is(x.pair(-1, 0, 1), -1);
    Due.is(x.pair(0, -1, 1), -1);
    Due.is(x.pair(0, 1, 51), -2);
    Due.is(x.pair(0, 1, -1), -2);
    Due.is(x.pair(0, 1, 50), 0);
    Due.is(x.pair(1, 0, 3), 0);
    Due.is(x.pair(0, 1, 0), 50);
    Due.is(x.pair(1, 0, 0), 3);
    Due.is(x.pair(3, 3, 9), 0);
    Due.is(x.pair(3, 3, 8), 9);
    // One that is alike costs nothing.
    Due.is(x.cost(123), 0);
    Due.is(x.bound(), 0);
  }

  private static void sames() {
    KeyDesk x = new KeyDesk();
    Due.is(x.same(-1), -2);
    Due.is(x.same(21), -2);
    Due.is(x.same(20), 5);
    Due.is(x.same(0), 20);
    Due.is(x.same(3), 0);
    x.pair(0, 1, 2);
    Due.is(x.cost(123), 2 * (1 + 3));
    x.same(0);
    Due.is(x.cost(123), 2);
  }

  private static void costs() {
    KeyDesk x = new KeyDesk();
    int[] none = {-1, -123, 0, 12, 124, 1111, 1230 + 4, 10123, 112, 1223, Integer.MAX_VALUE, Integer.MIN_VALUE};
    for (int layout : none) {
      Due.is(x.cost(layout), -2);
    }
    Due.is(x.cost(123), 0);
    Due.is(x.cost(3210), 0);
    x.symbols(7);
    Due.is(x.cost(123456), 0);
    Due.is(x.cost(6543210), 0);
    Due.is(x.cost(6543217), -2);
    Due.is(x.cost(16543210), -2);
    Due.is(x.cost(1234567), -2);
    x.symbols(2);
    Due.is(x.cost(1), 0);
    Due.is(x.cost(10), 0);
    Due.is(x.cost(11), -2);
    Due.is(x.cost(0), -2);
    Due.is(x.cost(-10), -2);
    Due.is(x.cost(110), -2);
    x.symbols(4);
    x.set(0, 0, 2);
    x.set(0, 3, 7);
    x.set(1, 1, 4);
    x.set(1, 3, 4);
    x.set(2, 0, 10);
    x.set(2, 3, 3);
    // Of 2 0 3 1: SYMBOL 0 on PLACE 2, 3 on PLACE 1: 10 and 3.
    Due.is(x.cost(2031), 13);
    Due.is(x.cost(3120), 76);
    x.pair(2, 3, 4);
    x.pair(0, 1, 1);
    // PLACES 3 and 1 have one FINGER, 2 and 0 too.
    Due.is(x.cost(2031), 13 + 4 * (2 + 5) + (2 + 5));
    x.pair(3, 2, 2);
    Due.is(x.cost(2031), 13 + 6 * (2 + 5) + (2 + 5));
    Due.is(x.cost(123), 20 + 3 * 7 + 6 * 1 + 1 * 1);
    x.same(0);
    Due.is(x.cost(2031), 13 + 12 + 2);
  }

  private static void bests() {
    KeyDesk x = new KeyDesk();
    Due.is(x.best(), 123);
    // The dear SYMBOL goes to the PLACE without EFFORT.
    x.set(2, 0, 9);
    x.set(0, 3, 0);
    Due.is(x.best(), 3012);
    x.set(2, 3, 9);
    Due.is(x.best(), 123);
    x.set(2, 3, 10);
    Due.is(x.best(), 123);
    x.set(2, 0, 10);
    x.set(2, 3, 9);
    Due.is(x.best(), 3012);
    // Of like ones the first by digits: 1 and 3 want to lie beside one another.
    x.symbols(4);
    x.pair(1, 3, 1);
    Due.is(x.best(), 132);
    Due.is(x.cost(132), 6);
    x.symbols(2);
    Due.is(x.best(), 1);
    x.set(0, 0, 5);
    x.set(2, 0, 1);
    Due.is(x.best(), 10);
    x.symbols(7);
    Due.is(x.best(), 123456);
    x.set(2, 0, 1);
    x.set(2, 1, 2);
    x.set(2, 2, 3);
    for (int place = 0; place < 7; place++) {
      x.set(0, place, 7 - place);
    }
    Due.is(x.best(), 4560123);
    for (int symbol = 0; symbol < 7; symbol++) {
      x.set(2, symbol, symbol + 1);
    }
    Due.is(x.best(), 123456);
    for (int symbol = 0; symbol < 7; symbol++) {
      x.set(2, symbol, 7 - symbol);
    }
    Due.is(x.best(), 6543210);
  }

  private static void bounds() {
    KeyDesk x = new KeyDesk();
    Due.is(x.bound(), 0);
    x.set(2, 0, 3);
    x.set(2, 1, 3);
    x.set(2, 2, 90);
    x.set(2, 3, 5);
    x.set(0, 0, 4);
    x.set(0, 1, 4);
    x.set(0, 2, 20);
    x.set(0, 3, 0);
    Due.is(x.bound(), 90 * 0 + 5 * 4 + 3 * 4 + 3 * 20);
    x.pair(0, 1, 2);
    x.pair(1, 0, 3);
    x.pair(3, 2, 50);
    x.pair(2, 2, 50);
    Due.is(x.bound(), 92 + 55);
    x.symbols(2);
    x.set(2, 0, 1);
    x.set(2, 1, 2);
    x.set(0, 0, 1);
    x.set(0, 1, 3);
    Due.is(x.bound(), 5);
    x.same(20);
    Due.is(x.bound(), 5);
    x.symbols(7);
    for (int i = 0; i < 7; i++) {
      x.set(2, i, 99);
      x.set(0, i, 20);
      for (int j = 0; j < 7; j++) {
        x.pair(i, j, 50);
      }
    }
    Due.is(x.bound(), 7 * 99 * 20 + 42 * 50);
  }

  private static void betters() {
    KeyDesk x = new KeyDesk();
    Due.is(x.better(123, -1), -2);
    Due.is(x.better(123, 2), -2);
    Due.is(x.better(124, 0), -2);
    Due.is(x.better(-1, 1), -2);
    // What is only as good is no exchange.
    Due.is(x.better(3210, 0), 3210);
    Due.is(x.better(3210, 1), 0);
    for (int i = 0; i < 4; i++) {
      x.set(2, i, 1 + i);
      x.set(0, i, 4 - i);
    }
    // 4 3 2 1 for LOADS of 4 3 2 1 on EFFORTS 1 2 3 4: first the outer two, then the inner two.
    Due.is(x.better(3210, 0), 123);
    Due.is(x.better(3210, 1), 2);
    Due.is(x.better(123, 1), 0);
    Due.is(x.better(1023, 1), 1);
    Due.is(x.better(1023, 0), 123);
    // Of like exchanges the first by numbers: SYMBOL 1 with 0, not with 2 or 3.
    x.symbols(4);
    x.set(0, 1, 2);
    x.set(2, 1, 5);
    Due.is(x.better(123, 0), 1023);
    Due.is(x.better(123, 1), 1);
    // It rests where no single exchange is better, though another LAYOUT is.
    x.symbols(3);
    x.set(2, 0, 10);
    x.set(0, 0, 3);
    x.set(0, 1, 1);
    x.set(0, 2, 0);
    Due.is(x.better(12, 0), 210);
    Due.is(x.better(102, 0), 201);
    x.symbols(7);
    for (int i = 0; i < 7; i++) {
      x.set(2, i, i);
      x.set(0, i, i);
    }
    Due.is(x.better(123456, 0), 6543210);
    Due.is(x.better(123456, 1), 3);
    Due.is(x.better(6543210, 1), 0);
  }

  private static void wayIs(KeyDesk x, int from, int to, int peak, int... layouts) {
    Due.is(x.way(from, to, -1), peak);
    Due.is(x.way(from, to, -2), layouts.length - 1);
    for (int i = 0; i < layouts.length; i++) {
      Due.is(x.way(from, to, i), layouts[i]);
    }
    Due.is(x.way(from, to, layouts.length), -6);
    Due.is(x.way(from, to, -3), -6);
  }

  private static void ways() {
    KeyDesk x = new KeyDesk();
    Due.is(x.way(124, 123, 0), -2);
    Due.is(x.way(123, 124, 0), -2);
    Due.is(x.way(-1, 123, 0), -2);
    x.symbols(6);
    Due.is(x.way(12345, 12345, 0), -3);
    Due.is(x.way(12345, 12346, 0), -2);
    Due.is(x.way(12346, 12345, 0), -2);
    x.symbols(2);
    wayIs(x, 1, 10, 0, 1, 10);
    wayIs(x, 10, 10, 0, 10);
    x.set(2, 0, 5);
    x.set(0, 1, 3);
    wayIs(x, 1, 10, 15, 1, 10);
    wayIs(x, 10, 1, 15, 10, 1);
    wayIs(x, 1, 1, 5, 1);
    x.symbols(5);
    wayIs(x, 1234, 1234, 0, 1234);
    wayIs(x, 1234, 43210, 0, 1234, 3214, 43210);
    // A ring of five needs four exchanges.
    Due.is(x.way(1234, 12340, -2), 4);
    Due.is(x.way(1234, 12340, 0), 1234);
    Due.is(x.way(1234, 12340, 4), 12340);
    Due.is(x.way(1234, 12340, 5), -6);
  }

  private static void waysOfLikePeaks() {
    // Three SYMBOLS; SYMBOL 0 on PLACE 1 is dear: the ways go around it.
    KeyDesk x = new KeyDesk();
    x.symbols(3);
    x.set(2, 0, 10);
    x.set(0, 1, 9);
    // From 0 1 2 to 2 1 0 by one exchange; COST 10 each.
    wayIs(x, 12, 210, 10, 12, 210);
    // From 0 1 2 to 2 0 1: the second LAYOUT may be 0 2 1 or 2 1 0 (102 is dear).
    wayIs(x, 12, 201, 10, 12, 21, 201);
    wayIs(x, 201, 12, 10, 201, 21, 12);
    // An end that is dear counts.
    wayIs(x, 12, 102, 90, 12, 102);
    wayIs(x, 120, 102, 90, 120, 102);
    wayIs(x, 120, 12, 90, 120, 21, 12);
    // A longer way, if its greatest COST is less: one exchange of SYMBOLS 1 and 2 is barred in between.
    x.symbols(4);
    x.set(2, 0, 50);
    x.set(0, 1, 20);
    x.set(0, 2, 20);
    Due.is(x.way(123, 3120, -1), 50);
    Due.is(x.way(123, 3120, -2), 1);
    Due.is(x.way(123, 3012, -1), 50);
    Due.is(x.way(123, 3012, -2), 3);
    wayIs(x, 123, 3012, 50, 123, 132, 312, 3012);
  }

  private static void told() {
    KeyDesk x = new KeyDesk();
    int[] none = {-1, 9, 13, 14, 19, 23, 29, 34, 100, Integer.MIN_VALUE, Integer.MAX_VALUE, Integer.MIN_VALUE + 10};
    for (int what : none) {
      Due.is(x.told(what), -2);
    }
    x.key(1);
    x.key(1);
    Due.is(x.told(0), 2);
    x.letter(1);
    Due.is(x.told(1), 1);
    x.rule(2);
    Due.is(x.told(0), 0);
    Due.is(x.told(1), 0);
    Due.is(x.told(12), 1);
    x.join(1, 1, 1, 1);
    Due.is(x.told(21), 1);
    x.key(1);
    x.word(0, 1, 1);
    Due.is(x.told(5), 1);
    x.say(0, true);
    Due.is(x.told(2), 1);
    x.both(0, 0, 1);
    Due.is(x.told(6), 1);
    x.learn(3, 0, 1);
    Due.is(x.told(7), 1);
    x.speak(2);
    Due.is(x.told(3), 2);
    x.strike(0, 1);
    Due.is(x.told(4), 1);
    x.symbols(6);
    Due.is(x.told(8), 6);
    x.budget(1, 77);
    Due.is(x.told(31), 77);
    Due.is(x.told(30), 100);
  }
}
