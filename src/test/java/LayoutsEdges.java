/** Edges of promises 38 to 47: LAYOUTS, and what is told. */
final class LayoutsEdges {
  private LayoutsEdges() {
  }

  // ---- Promise 38: symbols

  @Edge(promise = 38, sentence = "k SYMBOLS (2 to 7; 4 at first) .. how many there were")
  static void symbols2And7AreTaken() {
    KeyDesk x = new KeyDesk();
    Due.is(x.symbols(2), 4);
    Due.is(x.told(8), 2);
    Due.is(x.best(), 1);
    Due.is(x.symbols(7), 2);
    Due.is(x.told(8), 7);
    Due.is(x.best(), 123456);
  }

  @Edge(promise = 38, sentence = "k SYMBOLS (2 to 7; 4 at first) .. OUTSIDE.")
  static void symbolsBelow2IsOutside() {
    for (int k : Desk.below(2)) {
      Due.is(new KeyDesk().symbols(k), -2);
    }
  }

  @Edge(promise = 38, sentence = "k SYMBOLS (2 to 7; 4 at first) .. OUTSIDE.")
  static void symbolsAbove7IsOutside() {
    for (int k : Desk.above(7)) {
      Due.is(new KeyDesk().symbols(k), -2);
    }
  }

  @Edge(promise = 38, sentence = "k SYMBOLS anew (EFFORTS, FINGERS, LOADS, PAIRS as at first; SAME stays)")
  static void asManySymbolsAreAnewToo() {
    KeyDesk x = new KeyDesk();
    for (int i = 0; i < 4; i++) {
      x.set(0, i, 9);
      x.set(1, i, 3);
      x.set(2, i, 8);
      x.pair(i, 3 - i, 7);
    }
    Due.is(x.symbols(4), 4);
    for (int i = 0; i < 4; i++) {
      Due.is(x.set(0, i, 1), 1);
      Due.is(x.set(1, i, 0), 0);
      Due.is(x.set(2, i, 0), 0);
      Due.is(x.pair(i, 3 - i, 0), 0);
    }
  }

  @Edge(promise = 38, sentence = "k SYMBOLS anew (EFFORTS, FINGERS, LOADS, PAIRS as at first; SAME stays)")
  static void whatLayBeyondFewerSymbolsDoesNotComeBack() {
    KeyDesk x = new KeyDesk();
    x.symbols(7);
    x.set(0, 6, 9);
    x.set(1, 6, 3);
    x.set(2, 6, 8);
    x.pair(6, 5, 7);
    x.symbols(2);
    x.symbols(7);
    Due.is(x.set(0, 6, 1), 1);
    Due.is(x.set(1, 6, 0), 0);
    Due.is(x.set(2, 6, 0), 0);
    Due.is(x.pair(6, 5, 0), 0);
  }

  @Edge(promise = 38, sentence = "SAME stays")
  static void sameStaysBehindSymbols() {
    KeyDesk x = new KeyDesk();
    x.same(20);
    x.symbols(2);
    x.symbols(7);
    Due.is(x.same(0), 20);
  }

  @Edge(promise = 38, sentence = "They change nothing.")
  static void refusedSymbolsChangesNothing() {
    Twins.refused(-2, x -> x.symbols(1));
    Twins.refused(-2, x -> x.symbols(8));
  }

  // ---- Promise 39: set

  @Edge(promise = 39, sentence = "EFFORT of a PLACE (0 to 20; 1 at first) .. which it was")
  static void efforts0And20AreTaken() {
    KeyDesk x = new KeyDesk();
    Due.is(x.set(0, 0, 20), 1);
    Due.is(x.set(0, 0, 0), 20);
    Due.is(x.set(0, 0, 1), 0);
  }

  @Edge(promise = 39, sentence = "EFFORT of a PLACE (0 to 20; 1 at first) .. UNKNOWN: i; OUTSIDE.")
  static void effortBelow0OrAbove20IsOutside() {
    for (int v : Desk.beyond(0, 20)) {
      Due.is(new KeyDesk().set(0, 0, v), -2);
    }
  }

  @Edge(promise = 39, sentence = "FINGER of it (0 to 4; 0) .. which it was")
  static void fingers0And4AreTaken() {
    KeyDesk x = new KeyDesk();
    Due.is(x.set(1, 3, 4), 0);
    Due.is(x.set(1, 3, 0), 4);
    Due.is(x.set(1, 3, 1), 0);
  }

  @Edge(promise = 39, sentence = "FINGER of it (0 to 4; 0) .. UNKNOWN: i; OUTSIDE.")
  static void fingerBelow0OrAbove4IsOutside() {
    for (int v : Desk.beyond(0, 4)) {
      Due.is(new KeyDesk().set(1, 0, v), -2);
    }
  }

  @Edge(promise = 39, sentence = "LOAD of a SYMBOL (0 to 99; 0) .. which it was")
  static void loads0And99AreTaken() {
    KeyDesk x = new KeyDesk();
    Due.is(x.set(2, 1, 99), 0);
    Due.is(x.set(2, 1, 0), 99);
    Due.is(x.set(2, 1, 1), 0);
  }

  @Edge(promise = 39, sentence = "LOAD of a SYMBOL (0 to 99; 0) .. UNKNOWN: i; OUTSIDE.")
  static void loadBelow0OrAbove99IsOutside() {
    for (int v : Desk.beyond(0, 99)) {
      Due.is(new KeyDesk().set(2, 0, v), -2);
    }
  }

  @Edge(promise = 39, sentence = "EFFORT (what = 0), FINGER (1) of PLACE i, LOAD (2) of SYMBOL i .. UNKNOWN: i; OUTSIDE.")
  static void setOfNoSuchThingIsOutside() {
    for (int what : Desk.beyond(0, 2)) {
      Due.is(new KeyDesk().set(what, 0, 0), -2);
      Due.is(new KeyDesk().set(what, 3, 1), -2);
    }
  }

  @Edge(promise = 39, sentence = "k SYMBOLS (2 to 7; 4 at first) on k PLACES. .. UNKNOWN: i; OUTSIDE.")
  static void setBelow0OrBehindTheLastIsUnknown() {
    for (int k = 2; k <= 7; k++) {
      KeyDesk x = new KeyDesk();
      x.symbols(k);
      for (int what = 0; what <= 2; what++) {
        for (int i : Desk.beyond(0, k - 1)) {
          Due.is(x.set(what, i, 1), -1);
        }
        Due.is(x.set(what, k - 1, 1), what == 0 ? 1 : 0);
      }
    }
  }

  @Edge(promise = 39, sentence = "the first of these that fits")
  static void setUnknownGoesAheadOfOutside() {
    Due.is(new KeyDesk().set(3, 4, 0), -1);
    Due.is(new KeyDesk().set(-1, -1, 0), -1);
    Due.is(new KeyDesk().set(0, 4, 21), -1);
  }

  @Edge(promise = 39, sentence = "They change nothing.")
  static void refusedSetChangesNothing() {
    Twins.refused(-1, x -> x.set(0, 3, 5));
    Twins.refused(-1, x -> x.set(2, -1, 5));
    Twins.refused(-2, x -> x.set(3, 0, 5));
    Twins.refused(-2, x -> x.set(0, 0, 21));
    Twins.refused(-2, x -> x.set(1, 0, 5));
    Twins.refused(-2, x -> x.set(2, 0, 100));
  }

  // ---- Promise 40: pair

  @Edge(promise = 40, sentence = "PAIR of two SYMBOLS, one behind the other (0 to 50; 0) .. PAIR: which it was.")
  static void pairs0And50AreTaken() {
    KeyDesk x = new KeyDesk();
    Due.is(x.pair(0, 3, 50), 0);
    Due.is(x.pair(0, 3, 0), 50);
    Due.is(x.pair(0, 3, 1), 0);
  }

  @Edge(promise = 40, sentence = "PAIR of two SYMBOLS, one behind the other (0 to 50; 0) .. UNKNOWN; OUTSIDE.")
  static void pairBelow0IsOutside() {
    for (int v : Desk.below(0)) {
      Due.is(new KeyDesk().pair(0, 1, v), -2);
    }
  }

  @Edge(promise = 40, sentence = "PAIR of two SYMBOLS, one behind the other (0 to 50; 0) .. UNKNOWN; OUTSIDE.")
  static void pairAbove50IsOutside() {
    for (int v : Desk.above(50)) {
      Due.is(new KeyDesk().pair(0, 1, v), -2);
    }
  }

  @Edge(promise = 40, sentence = "k SYMBOLS (2 to 7; 4 at first) .. UNKNOWN; OUTSIDE.")
  static void pairOfNoFirstSymbolIsUnknown() {
    for (int k = 2; k <= 7; k++) {
      KeyDesk x = new KeyDesk();
      x.symbols(k);
      for (int a : Desk.beyond(0, k - 1)) {
        Due.is(x.pair(a, 0, 1), -1);
      }
      Due.is(x.pair(k - 1, 0, 1), 0);
    }
  }

  @Edge(promise = 40, sentence = "k SYMBOLS (2 to 7; 4 at first) .. UNKNOWN; OUTSIDE.")
  static void pairOfNoSecondSymbolIsUnknown() {
    for (int k = 2; k <= 7; k++) {
      KeyDesk x = new KeyDesk();
      x.symbols(k);
      for (int b : Desk.beyond(0, k - 1)) {
        Due.is(x.pair(0, b, 1), -1);
      }
      Due.is(x.pair(0, k - 1, 1), 0);
    }
  }

  @Edge(promise = 40, sentence = "PAIR of two SYMBOLS, one behind the other")
  static void pairTheOtherWayAroundIsAnother() {
    KeyDesk x = new KeyDesk();
    Due.is(x.pair(0, 1, 5), 0);
    Due.is(x.pair(1, 0, 6), 0);
    Due.is(x.pair(1, 1, 7), 0);
    Due.is(x.pair(0, 1, 0), 5);
    Due.is(x.pair(1, 0, 0), 6);
    Due.is(x.pair(1, 1, 0), 7);
  }

  @Edge(promise = 40, sentence = "the first of these that fits")
  static void pairUnknownGoesAheadOfOutside() {
    Due.is(new KeyDesk().pair(4, 0, 51), -1);
    Due.is(new KeyDesk().pair(0, -1, -1), -1);
  }

  @Edge(promise = 40, sentence = "They change nothing.")
  static void refusedPairChangesNothing() {
    Twins.refused(-1, x -> x.pair(3, 0, 5));
    Twins.refused(-1, x -> x.pair(0, -1, 5));
    Twins.refused(-2, x -> x.pair(0, 1, 51));
    Twins.refused(-2, x -> x.pair(0, 1, -1));
  }

  // ---- Promise 41: same

  @Edge(promise = 41, sentence = "SAME (0 to 20; 5) .. SAME: which it was.")
  static void sames0And20AreTaken() {
    KeyDesk x = new KeyDesk();
    x.pair(0, 1, 1);
    Due.is(x.same(0), 5);
    Due.is(x.cost(123), 1);
    Due.is(x.same(20), 0);
    Due.is(x.cost(123), 21);
    Due.is(x.same(20), 20);
  }

  @Edge(promise = 41, sentence = "SAME (0 to 20; 5) .. OUTSIDE.")
  static void sameBelow0IsOutside() {
    for (int v : Desk.below(0)) {
      Due.is(new KeyDesk().same(v), -2);
    }
  }

  @Edge(promise = 41, sentence = "SAME (0 to 20; 5) .. OUTSIDE.")
  static void sameAbove20IsOutside() {
    for (int v : Desk.above(20)) {
      Due.is(new KeyDesk().same(v), -2);
    }
  }

  @Edge(promise = 41, sentence = "They change nothing.")
  static void refusedSameChangesNothing() {
    Twins.refused(-2, x -> x.same(-1));
    Twins.refused(-2, x -> x.same(21));
  }

  // ---- Promise 42: cost

  @Edge(promise = 42, sentence = "COST of a LAYOUT. OUTSIDE: digits that are none.")
  static void layoutBelow0IsNone() {
    KeyDesk x = new KeyDesk();
    for (int layout : Desk.row(-1, -123, -3210, Integer.MIN_VALUE, Integer.MIN_VALUE + 1)) {
      Due.is(x.cost(layout), -2);
    }
  }

  @Edge(promise = 42, sentence = "OUTSIDE: digits that are none. .. PLACES of SYMBOLS 0, 1, and so on")
  static void layoutWithOnePlaceTwiceIsNone() {
    KeyDesk x = new KeyDesk();
    for (int layout : Desk.row(0, 12, 1111, 1223, 3211, 3330, 122)) {
      Due.is(x.cost(layout), -2);
    }
  }

  @Edge(promise = 42, sentence = "OUTSIDE: digits that are none. .. PLACES of SYMBOLS 0, 1, and so on")
  static void layoutOf2SymbolsIs1Or10Alone() {
    KeyDesk x = new KeyDesk();
    x.symbols(2);
    for (int layout = -11; layout <= 111; layout++) {
      boolean none = layout != 1 && layout != 10;
      Due.is(x.cost(layout), none ? -2 : 0);
      Due.is(x.better(layout, 1), none ? -2 : 0);
      Due.is(x.way(layout, 10, -1), none ? -2 : 0);
    }
  }

  @Edge(promise = 42, sentence = "OUTSIDE: digits that are none. .. on k PLACES")
  static void layoutWithAPlaceBeyondIsNone() {
    for (int k = 2; k <= 7; k++) {
      KeyDesk x = new KeyDesk();
      x.symbols(k);
      int first = Integer.parseInt("0123456".substring(0, k));
      for (int place = k; place <= 9; place++) {
        Due.is(x.cost(first - (k - 1) + place), -2);
      }
      Due.is(x.cost(first), 0);
    }
  }

  @Edge(promise = 42, sentence = "OUTSIDE: digits that are none. .. It is told by digits")
  static void layoutWithMoreDigitsIsNone() {
    KeyDesk x = new KeyDesk();
    for (int layout : Desk.row(10123, 40123, 43210, 1000000123, Integer.MAX_VALUE, Integer.MAX_VALUE - 1)) {
      Due.is(x.cost(layout), -2);
    }
    x.symbols(7);
    Due.is(x.cost(16543210), -2);
    Due.is(x.cost(10123456), -2);
    x.symbols(2);
    Due.is(x.cost(110), -2);
    Due.is(x.cost(101), -2);
  }

  @Edge(promise = 42, sentence = "It is told by digits: PLACES of SYMBOLS 0, 1, and so on.")
  static void firstAndLastLayoutsByDigitsAreSome() {
    int[] firsts = {1, 12, 123, 1234, 12345, 123456};
    int[] lasts = {10, 210, 3210, 43210, 543210, 6543210};
    for (int k = 2; k <= 7; k++) {
      KeyDesk x = new KeyDesk();
      x.symbols(k);
      x.set(2, 0, 3);
      x.set(0, k - 1, 7);
      Due.is(x.cost(firsts[k - 2]), 3);
      Due.is(x.cost(lasts[k - 2]), 21);
    }
  }

  @Edge(promise = 42, sentence = "for each PAIR of unlike ones")
  static void pairOfOneSymbolCostsNothing() {
    KeyDesk x = new KeyDesk();
    for (int s = 0; s < 4; s++) {
      x.pair(s, s, 50);
    }
    Due.is(x.cost(123), 0);
    Due.is(x.cost(3210), 0);
  }

  @Edge(promise = 42, sentence = "how far their PLACES are, by numbers, and SAME, if they have one FINGER")
  static void sameIsPaidForOneFingerAlone() {
    KeyDesk x = new KeyDesk();
    x.pair(0, 1, 1);
    Due.is(x.cost(123), 1 + 5);
    Due.is(x.cost(213), 2 + 5);
    Due.is(x.cost(3012), 3 + 5);
    x.set(1, 0, 4);
    Due.is(x.cost(123), 1);
    Due.is(x.cost(213), 2);
    Due.is(x.cost(3012), 3);
    x.set(1, 3, 4);
    Due.is(x.cost(3012), 3 + 5);
  }

  @Edge(promise = 42, sentence = "LOAD of a SYMBOL (0 to 99; 0), PAIR of two SYMBOLS, one behind the other (0 to 50; 0), SAME (0 to 20; 5)")
  static void greatestCost() {
    KeyDesk x = greatest();
    // 7 times 99 times 20; 42 PAIRS of 50: all their distances together are 112, and SAME 20 for each.
    Due.is(x.cost(123456), 7 * 99 * 20 + 50 * 112 + 42 * 50 * 20);
    Due.is(x.cost(6543210), 61460);
  }

  private static KeyDesk greatest() {
    KeyDesk x = new KeyDesk();
    x.symbols(7);
    x.same(20);
    for (int i = 0; i < 7; i++) {
      x.set(0, i, 20);
      x.set(2, i, 99);
      for (int j = 0; j < 7; j++) {
        x.pair(i, j, 50);
      }
    }
    return x;
  }

  // ---- Promise 43: best

  @Edge(promise = 43, sentence = "THE BEST LAYOUT: of the least COST, the first by digits.")
  static void ofLikeLayoutsTheFirstByDigitsIsBest() {
    int[] firsts = {1, 12, 123, 1234, 12345, 123456};
    for (int k = 2; k <= 7; k++) {
      KeyDesk x = new KeyDesk();
      x.symbols(k);
      Due.is(x.best(), firsts[k - 2]);
    }
    Due.is(greatest().best(), 123456);
  }

  @Edge(promise = 43, sentence = "THE BEST LAYOUT: of the least COST")
  static void lastByDigitsIsBestWhereItCostsLeast() {
    int[] lasts = {10, 210, 3210, 43210, 543210, 6543210};
    for (int k = 2; k <= 7; k++) {
      KeyDesk x = new KeyDesk();
      x.symbols(k);
      for (int i = 0; i < k; i++) {
        x.set(2, i, k - i);
        x.set(0, i, k - i);
      }
      Due.is(x.best(), lasts[k - 2]);
    }
  }

  @Edge(promise = 43, sentence = "of the least COST, the first by digits")
  static void leastByOneIsBest() {
    KeyDesk x = new KeyDesk();
    x.set(2, 0, 1);
    x.set(0, 3, 0);
    Due.is(x.best(), 3012);
    x.set(0, 0, 0);
    Due.is(x.best(), 123);
  }

  @Edge(promise = 43, sentence = "THE BEST LAYOUT: of the least COST, the first by digits.")
  static void bestAskedAgainIsToldAnew() {
    KeyDesk x = greatest();
    Due.is(x.best(), 123456);
    x.symbols(2);
    Due.is(x.best(), 1);
    x.set(2, 0, 1);
    x.set(0, 1, 0);
    Due.is(x.best(), 10);
    x.set(0, 1, 1);
    Due.is(x.best(), 1);
    // What is looked at in between does not count.
    Due.is(x.cost(10), 1);
    Due.is(x.better(10, 0), 10);
    Due.is(x.best(), 1);
  }

  // ---- Promise 44: bound

  @Edge(promise = 44, sentence = "BOUND: LOADS, the greatest first, times EFFORTS, the least first, together, and all PAIRS of unlike ones.")
  static void boundOfNothingIs0() {
    for (int k = 2; k <= 7; k++) {
      KeyDesk x = new KeyDesk();
      x.symbols(k);
      Due.is(x.bound(), 0);
    }
  }

  @Edge(promise = 44, sentence = "BOUND: LOADS, the greatest first, times EFFORTS, the least first, together, and all PAIRS of unlike ones.")
  static void greatestBound() {
    Due.is(greatest().bound(), 7 * 99 * 20 + 42 * 50);
  }

  @Edge(promise = 44, sentence = "LOADS, the greatest first, times EFFORTS, the least first")
  static void likeLoadsAndEffortsCountEach() {
    KeyDesk x = new KeyDesk();
    int[] loads = {5, 9, 5, 0};
    int[] efforts = {2, 0, 2, 7};
    for (int i = 0; i < 4; i++) {
      x.set(2, i, loads[i]);
      x.set(0, i, efforts[i]);
    }
    Due.is(x.bound(), 9 * 0 + 5 * 2 + 5 * 2 + 0 * 7);
    x.set(2, 3, 1);
    Due.is(x.bound(), 27);
  }

  @Edge(promise = 44, sentence = "and all PAIRS of unlike ones")
  static void pairOfOneSymbolIsNotInTheBound() {
    KeyDesk x = new KeyDesk();
    x.pair(2, 2, 50);
    Due.is(x.bound(), 0);
    x.pair(3, 0, 2);
    x.pair(0, 3, 3);
    Due.is(x.bound(), 5);
  }

  // ---- Promise 45: better

  @Edge(promise = 45, sentence = "what it comes to (what = 0), how many exchanges (1). OUTSIDE.")
  static void betterWhatBeyondIsOutside() {
    for (int what : Desk.beyond(0, 1)) {
      Due.is(new KeyDesk().better(123, what), -2);
    }
  }

  @Edge(promise = 45, sentence = "BETTERED from a LAYOUT .. OUTSIDE. .. It is told by digits")
  static void betterOfNoLayoutIsOutside() {
    for (int layout : Desk.row(-1, -123, 0, 124, 1111, 10123, Integer.MIN_VALUE, Integer.MAX_VALUE)) {
      Due.is(new KeyDesk().better(layout, 0), -2);
      Due.is(new KeyDesk().better(layout, 1), -2);
    }
  }

  @Edge(promise = 45, sentence = "as long as it becomes less")
  static void whatIsOnlyAsGoodIsNotExchanged() {
    KeyDesk x = new KeyDesk();
    Due.is(x.better(3210, 0), 3210);
    Due.is(x.better(3210, 1), 0);
    Due.is(greatest().better(6543210, 0), 6543210);
    Due.is(greatest().better(6543210, 1), 0);
  }

  @Edge(promise = 45, sentence = "as long as it becomes less")
  static void lessByOneIsExchanged() {
    KeyDesk x = new KeyDesk();
    x.symbols(2);
    x.set(2, 0, 1);
    x.set(0, 0, 2);
    Due.is(x.better(1, 0), 10);
    Due.is(x.better(1, 1), 1);
    Due.is(x.better(10, 0), 10);
    Due.is(x.better(10, 1), 0);
  }

  @Edge(promise = 45, sentence = "those by which COST is least then (of several the first by numbers)")
  static void ofLikeExchangesTheFirstByNumbers() {
    KeyDesk x = new KeyDesk();
    x.set(2, 3, 1);
    x.set(0, 3, 2);
    // SYMBOL 3 leaves PLACE 3 with 0, not with 1 or 2.
    Due.is(x.better(123, 0), 3120);
    Due.is(x.better(123, 1), 1);
    x.set(0, 1, 0);
    // PLACE 1 is SYMBOL 1's: that is better still.
    Due.is(x.better(123, 0), 321);
  }

  @Edge(promise = 45, sentence = "as long as it becomes less")
  static void exchangesGoOnToTheEnd() {
    KeyDesk x = new KeyDesk();
    x.symbols(7);
    for (int i = 0; i < 7; i++) {
      x.set(2, i, i);
      x.set(0, i, i);
    }
    Due.is(x.better(123456, 0), 6543210);
    Due.is(x.better(123456, 1), 3);
  }

  // ---- Promise 46: way

  @Edge(promise = 46, sentence = "WAY (k 5 at most) .. STATE: k is more than 5")
  static void wayOf5SymbolsIsToldAndOf6And7IsState() {
    KeyDesk x = new KeyDesk();
    x.symbols(5);
    Due.is(x.way(1234, 43210, -2), 2);
    x.symbols(6);
    for (int i = -3; i <= 1; i++) {
      Due.is(x.way(12345, 543210, i), -3);
    }
    x.symbols(7);
    Due.is(x.way(123456, 6543210, -1), -3);
  }

  @Edge(promise = 46, sentence = "OUTSIDE; STATE: k is more than 5")
  static void wayFromOrToNoLayoutIsOutside() {
    for (int layout : Desk.row(-1, -123, 0, 124, 1111, 10123, Integer.MIN_VALUE, Integer.MAX_VALUE)) {
      Due.is(new KeyDesk().way(layout, 123, 0), -2);
      Due.is(new KeyDesk().way(123, layout, 0), -2);
      Due.is(new KeyDesk().way(layout, layout, -1), -2);
    }
  }

  @Edge(promise = 46, sentence = "the first of these that fits")
  static void wayOutsideGoesAheadOfState() {
    KeyDesk x = new KeyDesk();
    x.symbols(6);
    Due.is(x.way(12346, 12345, 0), -2);
    Due.is(x.way(12345, 123, 0), -2);
  }

  @Edge(promise = 46, sentence = "WAY: the greatest COST (i = -1), how many exchanges (i = -2), the LAYOUT behind i exchanges; NONE.")
  static void wayBelowMinus2IsNone() {
    for (int i : Desk.below(-2)) {
      Due.is(new KeyDesk().way(123, 3210, i), -6);
    }
  }

  @Edge(promise = 46, sentence = "the LAYOUT behind i exchanges; NONE.")
  static void wayBehindTheLastExchangeIsNone() {
    KeyDesk x = new KeyDesk();
    Due.is(x.way(123, 1023, -2), 1);
    Due.is(x.way(123, 1023, 1), 1023);
    for (int i : Desk.above(1)) {
      Due.is(x.way(123, 1023, i), -6);
    }
  }

  @Edge(promise = 46, sentence = "both ends counted .. how many exchanges (i = -2)")
  static void wayToItselfHasNoExchange() {
    KeyDesk x = new KeyDesk();
    x.set(2, 0, 3);
    x.set(0, 3, 7);
    Due.is(x.way(3210, 3210, -2), 0);
    Due.is(x.way(3210, 3210, -1), 21);
    Due.is(x.way(3210, 3210, 0), 3210);
    Due.is(x.way(3210, 3210, 1), -6);
    Due.is(x.way(123, 123, -1), 3);
  }

  @Edge(promise = 46, sentence = "so that the greatest COST of any LAYOUT on it, both ends counted, is least")
  static void dearEndsCountInBothDirections() {
    KeyDesk x = new KeyDesk();
    x.symbols(2);
    x.set(2, 0, 5);
    x.set(0, 1, 3);
    Due.is(x.way(1, 10, -1), 15);
    Due.is(x.way(10, 1, -1), 15);
    Due.is(x.way(1, 10, 0), 1);
    Due.is(x.way(1, 10, 1), 10);
  }

  @Edge(promise = 46, sentence = "so that the greatest COST of any LAYOUT on it, both ends counted, is least")
  static void wayGoesAroundDearLayoutsByMoreExchanges() {
    KeyDesk x = new KeyDesk();
    x.same(0);
    x.pair(0, 1, 1);
    // Two exchanges would do, but SYMBOLS 0 and 1 would lie two PLACES apart in between.
    int[] way = {123, 132, 1032, 1230, 3210};
    Due.is(x.way(123, 3210, -1), 1);
    Due.is(x.way(123, 3210, -2), 4);
    for (int i = 0; i <= 4; i++) {
      Due.is(x.way(123, 3210, i), way[i]);
      Due.is(x.cost(way[i]), 1);
    }
    Due.is(x.way(123, 3210, 5), -6);
  }

  @Edge(promise = 46, sentence = "is least; of several the fewest exchanges")
  static void ofLikePeaksTheFewestExchanges() {
    KeyDesk x = new KeyDesk();
    x.same(0);
    x.pair(0, 1, 2);
    // The end itself costs 4: two exchanges come no higher.
    Due.is(x.way(123, 2301, -1), 2);
    Due.is(x.way(213, 3120, -1), 4);
    Due.is(x.way(213, 3120, -2), 2);
    Due.is(x.way(213, 3120, 1), 123);
    x.symbols(4);
    x.set(2, 0, 50);
    x.set(0, 1, 20);
    x.set(0, 2, 20);
    // SYMBOL 0 goes to its PLACE at once, in the third exchange of three.
    Due.is(x.way(123, 3012, -1), 50);
    Due.is(x.way(123, 3012, -2), 3);
    Due.is(x.way(123, 3012, 1), 132);
    Due.is(x.way(123, 3012, 2), 312);
    Due.is(x.way(123, 3012, 3), 3012);
    Due.is(x.way(123, 3120, -2), 1);
  }

  @Edge(promise = 46, sentence = "then the first by digits of the second LAYOUT, the third, and so on")
  static void ofLikeWaysTheFirstByDigits() {
    KeyDesk x = new KeyDesk();
    // From 0 1 2 3 to 1 2 3 0: each exchange brings one SYMBOL home at least.
    Due.is(x.way(123, 1230, -2), 3);
    Due.is(x.way(123, 1230, 1), 132);
    Due.is(x.way(123, 1230, 2), 231);
    Due.is(x.way(123, 1230, 3), 1230);
  }

  @Edge(promise = 46, sentence = "WAY (k 5 at most) from a LAYOUT to another one")
  static void longestWayOf5LikeSymbolsHas4Exchanges() {
    KeyDesk x = new KeyDesk();
    x.symbols(5);
    Due.is(x.way(1234, 12340, -2), 4);
    Due.is(x.way(1234, 12340, 0), 1234);
    Due.is(x.way(1234, 12340, 4), 12340);
    Due.is(x.way(1234, 12340, 5), -6);
    Due.is(x.way(43210, 1234, 0), 43210);
    Due.is(x.way(43210, 1234, 2), 1234);
  }

  @Edge(promise = 46, sentence = "WAY (k 5 at most) from a LAYOUT to another one .. the greatest COST of any LAYOUT on it")
  static void wayAskedAgainIsToldAnew() {
    KeyDesk x = new KeyDesk();
    Due.is(x.way(123, 3012, -1), 0);
    Due.is(x.way(123, 3012, -2), 3);
    Due.is(x.way(123, 3012, 1), 132);
    x.set(2, 3, 10);
    x.set(0, 3, 4);
    Due.is(x.way(123, 3012, -1), 40);
    x.set(0, 3, 1);
    Due.is(x.way(123, 3012, -1), 10);
    x.symbols(5);
    Due.is(x.way(1234, 12340, -2), 4);
    x.symbols(3);
    x.set(2, 0, 7);
    Due.is(x.way(12, 201, -1), 7);
    Due.is(x.way(12, 201, -2), 2);
    Due.is(x.way(12, 201, 1), 21);
    x.symbols(2);
    Due.is(x.way(1, 10, -2), 1);
    x.symbols(5);
    Due.is(x.way(1234, 43210, -1), 0);
    Due.is(x.way(1234, 43210, 1), 3214);
  }

  @Edge(promise = 46, sentence = "k SYMBOLS (2 to 7; 4 at first) .. WAY (k 5 at most) from a LAYOUT to another one")
  static void wayOf2SymbolsHasOneExchange() {
    KeyDesk x = new KeyDesk();
    x.symbols(2);
    Due.is(x.way(1, 10, -2), 1);
    Due.is(x.way(10, 1, -2), 1);
    Due.is(x.way(1, 1, -2), 0);
    Due.is(x.way(1, 10, 2), -6);
  }

  // ---- Promise 47: told

  @Edge(promise = 47, sentence = "0, 1, 2 PADS of KEYS, LETTERS, WORDS .. OUTSIDE.")
  static void toldBelow0IsOutside() {
    for (int what : Desk.below(0)) {
      Due.is(new KeyDesk().told(what), -2);
    }
  }

  @Edge(promise = 47, sentence = "30 to 33 BUDGETS of HANDS. OUTSIDE.")
  static void toldAbove33IsOutside() {
    for (int what : Desk.above(33)) {
      Due.is(new KeyDesk().told(what), -2);
    }
  }

  @Edge(promise = 47, sentence = "8 SYMBOLS, 10 to 12 RULES, 20 to 22 JOINS of TONGUES, 30 to 33 BUDGETS of HANDS. OUTSIDE.")
  static void toldInTheGapsIsOutside() {
    KeyDesk x = new KeyDesk();
    Due.is(x.told(9), -2);
    for (int what = 13; what <= 19; what++) {
      Due.is(x.told(what), -2);
    }
    for (int what = 23; what <= 29; what++) {
      Due.is(x.told(what), -2);
    }
  }

  @Edge(promise = 47, sentence = "30 to 33 BUDGETS of HANDS. OUTSIDE.")
  static void toldDoesNotWrapAround() {
    KeyDesk x = new KeyDesk();
    for (int what = 0; what <= 40; what++) {
      Due.is(x.told(Integer.MIN_VALUE + what), -2);
      Due.is(x.told(Integer.MAX_VALUE - what), -2);
    }
  }

  @Edge(promise = 47, sentence = "0, 1, 2 PADS of KEYS, LETTERS, WORDS, 3 TONGUE of THE LINE, 4 its strokes, 5 WORDS")
  static void emptyDeskIsTold() {
    KeyDesk x = new KeyDesk();
    for (int what = 0; what <= 7; what++) {
      Due.is(x.told(what), 0);
    }
    for (int t = 0; t <= 2; t++) {
      Due.is(x.told(10 + t), 0);
      Due.is(x.told(20 + t), 0);
    }
  }

  @Edge(promise = 47, sentence = "0, 1, 2 PADS of KEYS, LETTERS, WORDS .. 5 WORDS, 6 pairs that came, 7 learnings, 8 SYMBOLS")
  static void fullPadsAndWordsAreTold() {
    KeyDesk x = Desk.withWords(60);
    Desk.fillPairs(x);
    Desk.fillLearnings(x, 1, 0, 3000);
    Desk.keys(x, Desk.times(16, 1));
    Desk.letters(x, 1, 2, 3);
    for (int n = 0; n < 5; n++) {
      x.say(n, true);
    }
    Desk.line(x, Desk.times(40, 1));
    x.speak(2);
    x.symbols(7);
    int[] full = {16, 3, 5, 2, 40, 60, 40, 60, 7};
    for (int what = 0; what <= 8; what++) {
      Due.is(x.told(what), full[what]);
    }
  }

  @Edge(promise = 47, sentence = "10 to 12 RULES, 20 to 22 JOINS of TONGUES, 30 to 33 BUDGETS of HANDS")
  static void fullTonguesAndBudgetsAreTold() {
    for (int t = 0; t <= 2; t++) {
      KeyDesk x = new KeyDesk();
      Desk.fillRules(x, t);
      Desk.fillJoins(x, t);
      for (int other = 0; other <= 2; other++) {
        Due.is(x.told(10 + other), other == t ? 24 : 0);
        Due.is(x.told(20 + other), other == t ? 12 : 0);
      }
    }
    for (int hand = 0; hand <= 3; hand++) {
      KeyDesk x = new KeyDesk();
      x.budget(hand, 1000);
      for (int other = 0; other <= 3; other++) {
        Due.is(x.told(30 + other), other == hand ? 1000 : 100);
      }
    }
  }
}
