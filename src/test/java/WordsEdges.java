/** Edges of promises 18 to 29: WORDS, PRICES, GUESSES, PARTED, BOTH, CHOSEN. */
final class WordsEdges {
  private WordsEdges() {
  }

  // ---- Promise 18: word

  @Edge(promise = 18, sentence = "of a TONGUE .. A WORD, of the PAD of KEYS: its number.")
  static void wordOfTongues0And2IsTaken() {
    KeyDesk x = new KeyDesk();
    Due.is(Desk.word(x, 0, 1, 1), 0);
    Due.is(Desk.word(x, 2, 1, 1), 1);
    Due.is(x.ofWord(0, 0), 0);
    Due.is(x.ofWord(1, 0), 2);
  }

  @Edge(promise = 18, sentence = "TONGUES 0 to 2 .. UNKNOWN; OUTSIDE; FULL; NO")
  static void wordOfTongueBelow0IsUnknown() {
    for (int t : Desk.below(0)) {
      Due.is(Desk.word(new KeyDesk(), t, 1, 1), -1);
    }
  }

  @Edge(promise = 18, sentence = "TONGUES 0 to 2 .. UNKNOWN; OUTSIDE; FULL; NO")
  static void wordOfTongueAbove2IsUnknown() {
    for (int t : Desk.above(2)) {
      Due.is(Desk.word(new KeyDesk(), t, 1, 1), -1);
    }
  }

  private static int signed(int sign, int count) {
    KeyDesk x = new KeyDesk();
    x.key(1);
    return x.word(0, sign, count);
  }

  @Edge(promise = 18, sentence = "a SIGN (1 to 999)")
  static void signs1And999AreTaken() {
    KeyDesk x = new KeyDesk();
    x.key(1);
    Due.is(x.word(0, 1, 1), 0);
    x.key(1);
    Due.is(x.word(0, 999, 1), 1);
    Due.is(x.ofWord(0, 1), 1);
    Due.is(x.ofWord(1, 1), 999);
  }

  @Edge(promise = 18, sentence = "a SIGN (1 to 999) .. UNKNOWN; OUTSIDE; FULL; NO")
  static void signBelow1IsOutside() {
    for (int sign : Desk.below(1)) {
      Due.is(signed(sign, 1), -2);
    }
  }

  @Edge(promise = 18, sentence = "a SIGN (1 to 999) .. UNKNOWN; OUTSIDE; FULL; NO")
  static void signAbove999IsOutside() {
    for (int sign : Desk.above(999)) {
      Due.is(signed(sign, 1), -2);
    }
  }

  @Edge(promise = 18, sentence = "a COUNT (1 to 100)")
  static void counts1And100AreTaken() {
    KeyDesk x = new KeyDesk();
    Due.is(Desk.word(x, 0, 1, 1), 0);
    Due.is(Desk.word(x, 0, 100, 1), 1);
    Due.is(x.ofWord(0, 2), 1);
    Due.is(x.ofWord(1, 2), 100);
  }

  @Edge(promise = 18, sentence = "a COUNT (1 to 100) .. UNKNOWN; OUTSIDE; FULL; NO")
  static void wordWithCountBelow1IsOutside() {
    for (int count : Desk.below(1)) {
      Due.is(signed(1, count), -2);
    }
  }

  @Edge(promise = 18, sentence = "a COUNT (1 to 100) .. UNKNOWN; OUTSIDE; FULL; NO")
  static void wordWithCountAbove100IsOutside() {
    for (int count : Desk.above(100)) {
      Due.is(signed(1, count), -2);
    }
  }

  @Edge(promise = 18, sentence = "WORDS, 60 at most, numbered from 0 on")
  static void word59IsTheLastOfAllTongues() {
    KeyDesk x = new KeyDesk();
    for (int n = 0; n < 60; n++) {
      Due.is(Desk.word(x, n % 3, 1, n % 12), n);
    }
    Due.is(x.told(5), 60);
    Due.is(x.ofWord(59, 10), 11);
  }

  @Edge(promise = 18, sentence = "WORDS, 60 at most .. UNKNOWN; OUTSIDE; FULL; NO")
  static void word60IsFull() {
    KeyDesk x = Desk.withWords(60);
    for (int t = 0; t <= 2; t++) {
      Due.is(Desk.word(x, t, 1, 1), -4);
    }
    Due.is(x.told(5), 60);
  }

  @Edge(promise = 18, sentence = "a row of 1 to 8 KEYS")
  static void wordOf1KeyIsTaken() {
    KeyDesk x = new KeyDesk();
    Due.is(Desk.word(x, 0, 1, 11), 0);
    Due.is(x.ofWord(0, 3), 1);
    Due.is(x.ofWord(0, 10), 11);
  }

  @Edge(promise = 18, sentence = "a row of 1 to 8 KEYS")
  static void wordOf8KeysIsTaken() {
    KeyDesk x = new KeyDesk();
    Due.is(Desk.word(x, 0, 1, 0, 1, 2, 3, 8, 9, 10, 11), 0);
    Due.is(x.ofWord(0, 3), 8);
    Due.is(x.ofWord(0, 17), 11);
  }

  @Edge(promise = 18, sentence = "NO: the PAD is empty, or has more than 8 KEYS.")
  static void wordOf9KeysIsNo() {
    KeyDesk x = new KeyDesk();
    Due.is(Desk.word(x, 0, 1, Desk.times(9, 1)), -5);
    Due.is(x.told(5), 0);
  }

  @Edge(promise = 18, sentence = "NO: the PAD is empty, or has more than 8 KEYS.")
  static void wordOf16KeysIsNo() {
    KeyDesk x = new KeyDesk();
    Due.is(Desk.word(x, 0, 1, Desk.times(16, 1)), -5);
    Due.is(x.told(5), 0);
  }

  @Edge(promise = 18, sentence = "NO: the PAD is empty, or has more than 8 KEYS.")
  static void wordOfAnEmptyPadIsNo() {
    KeyDesk x = new KeyDesk();
    Due.is(x.word(0, 1, 1), -5);
    Due.is(x.told(5), 0);
  }

  @Edge(promise = 18, sentence = "the first of these that fits")
  static void wordUnknownGoesFirst() {
    Due.is(new KeyDesk().word(3, 0, 0), -1);
    Due.is(new KeyDesk().word(-1, 1, 1), -1);
    KeyDesk x = Desk.withWords(60);
    Due.is(Desk.word(x, 3, 1, 1), -1);
  }

  @Edge(promise = 18, sentence = "the first of these that fits")
  static void wordOutsideGoesAheadOfFullAndNo() {
    Due.is(new KeyDesk().word(0, 0, 1), -2);
    Due.is(new KeyDesk().word(0, 1, 101), -2);
    KeyDesk x = Desk.withWords(60);
    Due.is(x.word(0, 1000, 1), -2);
    Due.is(Desk.word(x, 0, 0, 1), -2);
  }

  @Edge(promise = 18, sentence = "the first of these that fits")
  static void wordFullGoesAheadOfNo() {
    KeyDesk x = Desk.withWords(60);
    Due.is(x.word(0, 1, 1), -4);
    Due.is(Desk.word(x, 0, 1, Desk.times(9, 1)), -4);
  }

  @Edge(promise = 18, sentence = "calls that take a PAD empty it")
  static void wordEmptiesThePadOfKeysAlone() {
    KeyDesk x = new KeyDesk();
    x.letter(1);
    Desk.word(x, 0, 1, 1, 2, 3, 4, 5, 6, 7, 8);
    Due.is(x.told(0), 0);
    Due.is(x.told(1), 1);
    Due.is(x.word(0, 1, 1), -5);
  }

  @Edge(promise = 18, sentence = "They change nothing.")
  static void refusedWordChangesNothing() {
    Twins.refused(-1, x -> x.word(3, 1, 1));
    Twins.refused(-2, x -> x.word(0, 0, 1));
    Twins.refused(-2, x -> x.word(0, 1, 101));
    Twins.refused(-5, x -> x.wipe(0), x -> x.word(0, 1, 1));
    Twins.refused(-5, x -> Desk.keys(x, Desk.times(9, 1)), x -> x.word(0, 1, 1));
    Twins.refused(-4, x -> {
      for (int n = x.told(5); n < 60; n++) {
        Desk.word(x, 2, 1, 4);
      }
      Desk.keys(x, 1, 2);
    }, x -> x.word(0, 1, 100));
  }

  // ---- Promise 19: ofWord

  private static KeyDesk oneWord() {
    KeyDesk x = new KeyDesk();
    Desk.keys(x, 11, 0, 7);
    x.word(2, 345, 67);
    return x;
  }

  @Edge(promise = 19, sentence = "Of a WORD: 0 TONGUE, 1 SIGN, 2 COUNT, 3 how many KEYS, 10 and i: KEY i (NONE).")
  static void ofWordTells0To3And10On() {
    KeyDesk x = oneWord();
    int[] due = {2, 345, 67, 3};
    for (int what = 0; what <= 3; what++) {
      Due.is(x.ofWord(0, what), due[what]);
    }
    Due.is(x.ofWord(0, 10), 11);
    Due.is(x.ofWord(0, 11), 0);
    Due.is(x.ofWord(0, 12), 7);
  }

  @Edge(promise = 19, sentence = "10 and i: KEY i (NONE).")
  static void ofWordBehindTheLastKeyIsNone() {
    KeyDesk x = oneWord();
    for (int what : Desk.above(12)) {
      Due.is(x.ofWord(0, what), -6);
    }
  }

  @Edge(promise = 19, sentence = "a row of 1 to 8 KEYS .. 10 and i: KEY i (NONE).")
  static void ofWordOf8KeysTellsUpTo17() {
    KeyDesk x = new KeyDesk();
    Desk.word(x, 0, 1, 1, 2, 3, 4, 5, 6, 7, 8);
    Due.is(x.ofWord(0, 17), 8);
    Due.is(x.ofWord(0, 18), -6);
  }

  @Edge(promise = 19, sentence = "Of a WORD: 0 TONGUE .. UNKNOWN; OUTSIDE.")
  static void ofWordWhatBelow0IsOutside() {
    KeyDesk x = oneWord();
    for (int what : Desk.below(0)) {
      Due.is(x.ofWord(0, what), -2);
    }
  }

  @Edge(promise = 19, sentence = "3 how many KEYS, 10 and i .. UNKNOWN; OUTSIDE.")
  static void ofWordWhat4To9IsOutside() {
    KeyDesk x = oneWord();
    for (int what = 4; what <= 9; what++) {
      Due.is(x.ofWord(0, what), -2);
    }
  }

  @Edge(promise = 19, sentence = "there is no such .. WORD .. UNKNOWN; OUTSIDE.")
  static void ofNoWordIsUnknown() {
    Due.is(new KeyDesk().ofWord(0, 0), -1);
    KeyDesk x = oneWord();
    for (int word : Desk.beyond(0, 0)) {
      Due.is(x.ofWord(word, 0), -1);
      Due.is(x.ofWord(word, 10), -1);
    }
  }

  @Edge(promise = 19, sentence = "the first of these that fits")
  static void ofWordUnknownGoesAheadOfOutsideAndNone() {
    KeyDesk x = oneWord();
    Due.is(x.ofWord(1, 4), -1);
    Due.is(x.ofWord(-1, -1), -1);
    Due.is(x.ofWord(1, 99), -1);
  }

  // ---- Promise 20: count

  @Edge(promise = 20, sentence = "COUNT of a WORD: which it was.")
  static void countTellsWhichItWas() {
    KeyDesk x = oneWord();
    Due.is(x.count(0, 1), 67);
    Due.is(x.count(0, 100), 1);
    Due.is(x.count(0, 100), 100);
    Due.is(x.ofWord(0, 2), 100);
  }

  @Edge(promise = 20, sentence = "a COUNT (1 to 100) .. UNKNOWN; OUTSIDE.")
  static void countBelow1IsOutside() {
    KeyDesk x = oneWord();
    for (int n : Desk.below(1)) {
      Due.is(x.count(0, n), -2);
    }
  }

  @Edge(promise = 20, sentence = "a COUNT (1 to 100) .. UNKNOWN; OUTSIDE.")
  static void countAbove100IsOutside() {
    KeyDesk x = oneWord();
    for (int n : Desk.above(100)) {
      Due.is(x.count(0, n), -2);
    }
  }

  @Edge(promise = 20, sentence = "there is no such .. WORD .. UNKNOWN; OUTSIDE.")
  static void countOfNoWordIsUnknown() {
    Due.is(new KeyDesk().count(0, 1), -1);
    KeyDesk x = oneWord();
    for (int word : Desk.beyond(0, 0)) {
      Due.is(x.count(word, 1), -1);
    }
  }

  @Edge(promise = 20, sentence = "the first of these that fits")
  static void countUnknownGoesAheadOfOutside() {
    Due.is(oneWord().count(1, 0), -1);
    Due.is(oneWord().count(-1, 101), -1);
  }

  @Edge(promise = 20, sentence = "They change nothing.")
  static void refusedCountChangesNothing() {
    Twins.refused(-1, x -> x.count(3, 50));
    Twins.refused(-2, x -> x.count(0, 0));
    Twins.refused(-2, x -> x.count(0, 101));
  }

  // ---- Promise 21: price

  @Edge(promise = 21, sentence = "PRICES of slips (1 to 20) .. A PRICE (5: SWITCH): which it was.")
  static void prices1And20AreTaken() {
    KeyDesk x = new KeyDesk();
    int[] atFirst = {3, 3, 4, 3, 6};
    for (int which = 0; which <= 4; which++) {
      Due.is(x.price(which, 1), atFirst[which]);
      Due.is(x.price(which, 20), 1);
      Due.is(x.price(which, 20), 20);
    }
  }

  @Edge(promise = 21, sentence = "PRICES of slips (1 to 20) .. OUTSIDE.")
  static void priceBelow1IsOutside() {
    for (int which = 0; which <= 4; which++) {
      for (int v : Desk.below(1)) {
        Due.is(new KeyDesk().price(which, v), -2);
      }
    }
  }

  @Edge(promise = 21, sentence = "PRICES of slips (1 to 20) .. OUTSIDE.")
  static void priceAbove20IsOutside() {
    for (int which = 0; which <= 4; which++) {
      for (int v : Desk.above(20)) {
        Due.is(new KeyDesk().price(which, v), -2);
      }
    }
  }

  @Edge(promise = 21, sentence = "SWITCH (0 to 20; 5 at first) .. A PRICE (5: SWITCH): which it was.")
  static void switch0And20IsTaken() {
    KeyDesk x = new KeyDesk();
    Due.is(x.price(5, 0), 5);
    Due.is(x.price(5, 20), 0);
    Due.is(x.price(5, 1), 20);
  }

  @Edge(promise = 21, sentence = "SWITCH (0 to 20; 5 at first) .. OUTSIDE.")
  static void switchBelow0IsOutside() {
    for (int v : Desk.below(0)) {
      Due.is(new KeyDesk().price(5, v), -2);
    }
  }

  @Edge(promise = 21, sentence = "SWITCH (0 to 20; 5 at first) .. OUTSIDE.")
  static void switchAbove20IsOutside() {
    for (int v : Desk.above(20)) {
      Due.is(new KeyDesk().price(5, v), -2);
    }
  }

  @Edge(promise = 21, sentence = "0 BESIDE (3 at first) .. OUTSIDE.")
  static void priceOfWhichBelow0IsOutside() {
    for (int which : Desk.below(0)) {
      Due.is(new KeyDesk().price(which, 1), -2);
    }
  }

  @Edge(promise = 21, sentence = "A PRICE (5: SWITCH): which it was. OUTSIDE.")
  static void priceOfWhichAbove5IsOutside() {
    for (int which : Desk.above(5)) {
      Due.is(new KeyDesk().price(which, 1), -2);
    }
  }

  @Edge(promise = 21, sentence = "They change nothing.")
  static void refusedPriceChangesNothing() {
    Twins.refused(-2, x -> x.price(0, 0));
    Twins.refused(-2, x -> x.price(4, 21));
    Twins.refused(-2, x -> x.price(5, -1));
    Twins.refused(-2, x -> x.price(6, 9));
  }

  // ---- Promise 22: slip

  @Edge(promise = 22, sentence = "UNKNOWN; STATE: the PAD is empty.")
  static void slipOfAnEmptyPadIsState() {
    KeyDesk x = Desk.withWords(1);
    Due.is(x.slip(0), -3);
    x.key(0);
    Due.is(x.slip(0), 0);
    x.wipe(0);
    Due.is(x.slip(0), -3);
  }

  @Edge(promise = 22, sentence = "there is no such .. WORD .. UNKNOWN; STATE: the PAD is empty.")
  static void slipForNoWordIsUnknown() {
    KeyDesk x = new KeyDesk();
    x.key(1);
    Due.is(x.slip(0), -1);
    Desk.word(x, 0, 1, 1);
    x.key(1);
    for (int word : Desk.beyond(0, 0)) {
      Due.is(x.slip(word), -1);
    }
  }

  @Edge(promise = 22, sentence = "the first of these that fits")
  static void slipUnknownGoesAheadOfState() {
    Due.is(new KeyDesk().slip(0), -1);
    Due.is(Desk.withWords(1).slip(1), -1);
    Due.is(Desk.withWords(1).slip(-1), -1);
  }

  @Edge(promise = 22, sentence = "PRICE of the PAD's KEYS for a WORD.")
  static void slipLeavesThePad() {
    KeyDesk x = Desk.withWords(1);
    Desk.keys(x, 0, 1);
    Due.is(x.slip(0), x.slip(0));
    Due.is(x.told(0), 2);
  }

  private static int slip(int[] word, int... struck) {
    KeyDesk x = new KeyDesk();
    Desk.word(x, 0, 1, word);
    Desk.keys(x, struck);
    return x.slip(0);
  }

  @Edge(promise = 22, sentence = "(and they are not one) .. nothing, if it is that; BESIDE, if it lies so")
  static void keyIsNotBesideItself() {
    for (int k = 0; k <= 11; k++) {
      Due.is(slip(Desk.row(k), k), 0);
    }
  }

  @Edge(promise = 22, sentence = "nothing, if it is that")
  static void keysThatAreTheWordCostNothing() {
    Due.is(slip(Desk.row(0), 0), 0);
    Due.is(slip(Desk.row(11), 11), 0);
    Due.is(slip(Desk.row(0, 11, 0, 11, 5, 5, 6, 6), 0, 11, 0, 11, 5, 5, 6, 6), 0);
  }

  @Edge(promise = 22, sentence = "two are BESIDE one another, if neither differs by more than 1 .. BESIDE, if it lies so")
  static void allEightAroundAKeyAreBesideIt() {
    for (int k : Desk.row(0, 1, 2, 4, 6, 8, 9, 10)) {
      Due.is(slip(Desk.row(5), k), 3);
      Due.is(slip(Desk.row(k), 5), 3);
    }
  }

  @Edge(promise = 22, sentence = "if neither differs by more than 1 .. else WRONG")
  static void twoColumnsOrTwoRowsAwayIsWrong() {
    Due.is(slip(Desk.row(5), 3), 6);
    Due.is(slip(Desk.row(5), 7), 6);
    Due.is(slip(Desk.row(5), 11), 6);
    Due.is(slip(Desk.row(0), 2), 6);
    Due.is(slip(Desk.row(0), 8), 6);
    Due.is(slip(Desk.row(9), 1), 6);
    Due.is(slip(Desk.row(0), 11), 6);
    Due.is(slip(Desk.row(11), 0), 6);
  }

  @Edge(promise = 22, sentence = "KEY k in row k by 4, column k left over by 4")
  static void endOfARowIsNotBesideTheBeginningOfTheNext() {
    Due.is(slip(Desk.row(3), 4), 6);
    Due.is(slip(Desk.row(4), 3), 6);
    Due.is(slip(Desk.row(7), 8), 6);
    Due.is(slip(Desk.row(8), 7), 6);
    Due.is(slip(Desk.row(3), 2), 3);
    Due.is(slip(Desk.row(4), 8), 3);
  }

  @Edge(promise = 22, sentence = "TWICE, if it is that struck just ahead; else WRONG")
  static void keyTooManyIsTwiceBehindItsLike() {
    Due.is(slip(Desk.row(5), 5, 5), 3);
    Due.is(slip(Desk.row(5), 5, 5, 5), 6);
  }

  @Edge(promise = 22, sentence = "TWICE, if it is that struck just ahead; else WRONG")
  static void firstKeyTooManyHasNoneStruckAhead() {
    Due.is(slip(Desk.row(5), 11, 5), 6);
    KeyDesk x = new KeyDesk();
    Desk.word(x, 0, 1, 5);
    // WRONG is less than TWICE: the first of the two is too many.
    x.price(1, 20);
    x.price(4, 7);
    Desk.keys(x, 5, 5);
    Due.is(x.slip(0), 7);
  }

  @Edge(promise = 22, sentence = "TWICE, if it is that struck just ahead; else WRONG")
  static void keyTooManyBehindAnotherIsWrong() {
    Due.is(slip(Desk.row(5), 5, 11), 6);
    Due.is(slip(Desk.row(5), 5, 11, 5), 12);
  }

  @Edge(promise = 22, sentence = "one of the WORD that was not struck: LEFT")
  static void allKeysButOneAreLeft() {
    Due.is(slip(Desk.row(0, 11), 0), 4);
    Due.is(slip(Desk.row(0, 11), 11), 4);
    Due.is(slip(Desk.row(0, 11, 0, 11, 0, 11, 0, 11), 11), 28);
  }

  @Edge(promise = 22, sentence = "two struck one behind the other, unlike, for the same two in the other order: ORDER")
  static void orderAtBothEndsOfAWord() {
    Due.is(slip(Desk.row(0, 11), 11, 0), 3);
    Due.is(slip(Desk.row(0, 11, 0, 3), 11, 0, 0, 3), 3);
    Due.is(slip(Desk.row(0, 11, 0, 3), 0, 11, 3, 0), 3);
    Due.is(slip(Desk.row(0, 11, 8, 3), 11, 0, 3, 8), 6);
  }

  @Edge(promise = 22, sentence = "two struck one behind the other, unlike, for the same two in the other order: ORDER")
  static void keysWithOneBetweenAreNotInTheOtherOrder() {
    Due.is(slip(Desk.row(0, 11, 3), 3, 11, 0), 12);
  }

  @Edge(promise = 22, sentence = "The PRICE of struck KEYS for a WORD: the least sum with which they become its KEYS")
  static void leastOfSeveralWaysIsThePrice() {
    KeyDesk x = new KeyDesk();
    Desk.word(x, 0, 1, 5);
    Desk.keys(x, 6);
    Due.is(x.slip(0), 3);
    // BESIDE 20 or LEFT 4 with WRONG 6; then WRONG 20 makes BESIDE the least.
    x.price(0, 20);
    Due.is(x.slip(0), 10);
    x.price(4, 20);
    Due.is(x.slip(0), 20);
  }

  @Edge(promise = 22, sentence = "of KEYS (16 at most) .. PRICE of the PAD's KEYS for a WORD.")
  static void slipOf16Keys() {
    Due.is(slip(Desk.row(5), Desk.times(16, 5)), 45);
    Due.is(slip(Desk.row(11, 3, 11, 3, 11, 3, 11, 3), Desk.times(16, 0)), 72);
    Due.is(slip(Desk.times(8, 5), Desk.times(16, 5)), 24);
  }

  @Edge(promise = 22, sentence = "PRICES of slips (1 to 20)")
  static void slipAtTheGreatestPrices() {
    KeyDesk x = new KeyDesk();
    Desk.word(x, 0, 1, 11, 3, 11, 3, 11, 3, 11, 3);
    Desk.word(x, 0, 1, 5);
    for (int which = 0; which <= 4; which++) {
      x.price(which, 20);
    }
    Desk.keys(x, Desk.times(16, 0));
    Due.is(x.slip(0), 320);
    Due.is(x.slip(1), 320);
    Desk.keys(x, 0);
    Due.is(x.slip(0), 160);
  }

  // ---- Promise 23: guess

  /** WORD 0 is the KEY 5, WORD 1 the KEY 6 of TONGUE 1, WORD 2 the KEY 7 of TONGUE 2; the PAD holds 5. */
  private static KeyDesk guessing() {
    KeyDesk x = new KeyDesk();
    Desk.word(x, 0, 1, 5);
    Desk.word(x, 1, 1, 6);
    Desk.word(x, 2, 1, 7);
    Desk.keys(x, 5);
    return x;
  }

  @Edge(promise = 23, sentence = "in some TONGUES (bits) .. OUTSIDE: tongues 1 to 7, P; STATE.")
  static void guessInTonguesBelow1IsOutside() {
    for (int tongues : Desk.below(1)) {
      Due.is(guessing().guess(tongues, 60, -1), -2);
    }
  }

  @Edge(promise = 23, sentence = "in some TONGUES (bits) .. OUTSIDE: tongues 1 to 7, P; STATE.")
  static void guessInTonguesAbove7IsOutside() {
    for (int tongues : Desk.above(7)) {
      Due.is(guessing().guess(tongues, 60, -1), -2);
    }
  }

  @Edge(promise = 23, sentence = "in some TONGUES (bits)")
  static void tonguesAreBits() {
    KeyDesk x = guessing();
    for (int tongues = 1; tongues <= 7; tongues++) {
      Due.is(x.guess(tongues, 60, -1), Integer.bitCount(tongues));
      Due.is(x.guess(tongues, 60, 0), Integer.numberOfTrailingZeros(tongues));
    }
  }

  @Edge(promise = 23, sentence = "within P (0 to 60) .. OUTSIDE: tongues 1 to 7, P; STATE.")
  static void guessWithinPBelow0IsOutside() {
    for (int p : Desk.below(0)) {
      Due.is(guessing().guess(7, p, -1), -2);
    }
  }

  @Edge(promise = 23, sentence = "within P (0 to 60) .. OUTSIDE: tongues 1 to 7, P; STATE.")
  static void guessWithinPAbove60IsOutside() {
    for (int p : Desk.above(60)) {
      Due.is(guessing().guess(7, p, -1), -2);
    }
  }

  @Edge(promise = 23, sentence = "within P (0 to 60): WORDS whose PRICE is P at most")
  static void withinP0OnlyWhatCostsNothing() {
    Due.is(guessing().guess(7, 0, -1), 1);
    Due.is(guessing().guess(7, 0, 0), 0);
    Due.is(guessing().guess(6, 0, -1), 0);
  }

  @Edge(promise = 23, sentence = "WORDS whose PRICE is P at most")
  static void priceOfPIsWithinAndOneMoreIsNot() {
    KeyDesk x = guessing();
    Due.is(x.guess(7, 2, -1), 1);
    Due.is(x.guess(7, 3, -1), 2);
    Due.is(x.guess(7, 5, -1), 2);
    Due.is(x.guess(7, 6, -1), 3);
  }

  @Edge(promise = 23, sentence = "within P (0 to 60): WORDS whose PRICE is P at most")
  static void price60IsWithin60And61IsNot() {
    KeyDesk x = guessing();
    x.price(1, 4);
    x.price(0, 1);
    Desk.keys(x, Desk.times(16, 5));
    Due.is(x.slip(0), 60);
    Due.is(x.slip(1), 61);
    Due.is(x.guess(7, 60, -1), 1);
    Due.is(x.guess(7, 60, 0), 0);
    Due.is(x.guess(7, 59, -1), 0);
  }

  @Edge(promise = 23, sentence = "OUTSIDE: tongues 1 to 7, P; STATE. .. STATE -3 (as told)")
  static void guessOfAnEmptyPadIsState() {
    KeyDesk x = guessing();
    x.wipe(0);
    Due.is(x.guess(7, 60, -1), -3);
    Due.is(x.guess(7, 60, 0), -3);
    Due.is(x.guess(7, 60, -2), -3);
  }

  @Edge(promise = 23, sentence = "the first of these that fits")
  static void guessOutsideGoesAheadOfState() {
    Due.is(new KeyDesk().guess(0, 60, -1), -2);
    Due.is(new KeyDesk().guess(8, 60, -1), -2);
    Due.is(new KeyDesk().guess(7, 61, -1), -2);
    Due.is(new KeyDesk().guess(7, -1, -1), -2);
  }

  @Edge(promise = 23, sentence = "GUESSES: how many (i = -1), the i-th; NONE.")
  static void withoutWordsThereAreNoGuesses() {
    KeyDesk x = new KeyDesk();
    x.key(1);
    Due.is(x.guess(7, 60, -1), 0);
    Due.is(x.guess(7, 60, 0), -6);
  }

  @Edge(promise = 23, sentence = "GUESSES: how many (i = -1), the i-th; NONE.")
  static void guessBehindTheLastIsNone() {
    KeyDesk x = guessing();
    Due.is(x.guess(7, 60, 2), 2);
    for (int i : Desk.above(2)) {
      Due.is(x.guess(7, 60, i), -6);
    }
  }

  @Edge(promise = 23, sentence = "GUESSES: how many (i = -1), the i-th; NONE.")
  static void guessBelowMinus1IsNone() {
    for (int i : Desk.below(-1)) {
      Due.is(guessing().guess(7, 60, i), -6);
    }
  }

  @Edge(promise = 23, sentence = "by PRICE, the least first; of like ones by COUNT, the greatest first; then by numbers")
  static void likeGuessesComeByCountThenByNumbers() {
    KeyDesk x = new KeyDesk();
    for (int n = 0; n < 60; n++) {
      Desk.word(x, 0, 7, 5);
    }
    Desk.keys(x, 5);
    Due.is(x.guess(1, 0, -1), 60);
    for (int i = 0; i < 60; i++) {
      Due.is(x.guess(1, 0, i), i);
    }
    Due.is(x.guess(1, 0, 60), -6);
    x.count(59, 8);
    x.count(0, 6);
    Due.is(x.guess(1, 0, 0), 59);
    Due.is(x.guess(1, 0, 1), 1);
    Due.is(x.guess(1, 0, 59), 0);
  }

  @Edge(promise = 23, sentence = "of like ones by COUNT, the greatest first; then by numbers")
  static void whatHandsLearnedDoesNotOrderGuesses() {
    KeyDesk x = new KeyDesk();
    Desk.word(x, 0, 1, 5);
    Desk.word(x, 0, 1, 5);
    Desk.keys(x, 5);
    for (int hand = 0; hand <= 3; hand++) {
      x.learn(hand, 1, 0);
      x.learn(hand, 1, 3000);
      Due.is(x.guess(1, 60, 0), 0);
      Due.is(x.guess(1, 60, 1), 1);
    }
  }

  @Edge(promise = 23, sentence = "by PRICE, the least first; of like ones by COUNT, the greatest first")
  static void leastPriceGoesAheadOfTheGreatestCount() {
    KeyDesk x = guessing();
    x.count(1, 100);
    x.count(2, 100);
    Due.is(x.guess(7, 60, 0), 0);
    Due.is(x.guess(7, 60, 1), 1);
    Due.is(x.guess(7, 60, 2), 2);
  }

  @Edge(promise = 23, sentence = "GUESSES of the KEYS on the PAD, in some TONGUES (bits), within P (0 to 60)")
  static void guessesAskedAgainAndAgainStayTheSame() {
    KeyDesk x = guessing();
    for (int n = 0; n < 60; n++) {
      Due.is(x.guess(7, 60, 1), 1);
      Due.is(x.guess(7, 0, -1), 1);
      Due.is(x.guess(6, 60, 0), 1);
      Due.is(x.guess(4, n % 6, -1), 0);
    }
    // What was dear becomes what costs nothing, and the other way around.
    Desk.keys(x, 7);
    Due.is(x.guess(7, 60, 0), 2);
    Due.is(x.guess(7, 60, 1), 1);
    Due.is(x.guess(7, 60, 2), 0);
  }

  @Edge(promise = 23, sentence = "GUESSES of the KEYS on the PAD")
  static void guessLeavesThePad() {
    KeyDesk x = guessing();
    x.guess(7, 60, 0);
    Due.is(x.told(0), 1);
    Due.is(x.slip(0), 0);
  }

  // ---- Promise 24: part

  @Edge(promise = 24, sentence = "WORDS of some TONGUES .. OUTSIDE: tongues; STATE: the PAD is empty; NO")
  static void partInTonguesBelow1IsOutside() {
    for (int tongues : Desk.below(1)) {
      Due.is(guessing().part(tongues, -1), -2);
    }
  }

  @Edge(promise = 24, sentence = "WORDS of some TONGUES .. OUTSIDE: tongues; STATE: the PAD is empty; NO")
  static void partInTonguesAbove7IsOutside() {
    for (int tongues : Desk.above(7)) {
      Due.is(guessing().part(tongues, -1), -2);
    }
  }

  @Edge(promise = 24, sentence = "STATE: the PAD is empty")
  static void partOfAnEmptyPadIsState() {
    KeyDesk x = guessing();
    x.wipe(0);
    for (int i = -3; i <= 1; i++) {
      Due.is(x.part(7, i), -3);
    }
  }

  @Edge(promise = 24, sentence = "NO: it can not be.")
  static void withoutWordsThePadCanNotBeParted() {
    KeyDesk x = new KeyDesk();
    x.key(1);
    for (int i = -3; i <= 1; i++) {
      Due.is(x.part(7, i), -5);
    }
  }

  @Edge(promise = 24, sentence = "WORDS of some TONGUES .. NO: it can not be.")
  static void withoutWordsOfTheTonguesThePadCanNotBeParted() {
    KeyDesk x = new KeyDesk();
    Desk.word(x, 1, 1, 5);
    Desk.keys(x, 5);
    for (int tongues = 1; tongues <= 7; tongues++) {
      Due.is(x.part(tongues, -1), (tongues & 2) == 0 ? -5 : 0);
      Due.is(x.part(tongues, 0), (tongues & 2) == 0 ? -5 : 0);
    }
  }

  @Edge(promise = 24, sentence = "the first of these that fits")
  static void partOutsideGoesAheadOfStateAndNo() {
    Due.is(new KeyDesk().part(0, -1), -2);
    Due.is(new KeyDesk().part(8, -1), -2);
    KeyDesk x = new KeyDesk();
    x.key(1);
    Due.is(x.part(8, -1), -2);
  }

  @Edge(promise = 24, sentence = "the first of these that fits")
  static void partStateGoesAheadOfNo() {
    Due.is(new KeyDesk().part(7, -1), -3);
  }

  @Edge(promise = 24, sentence = "PARTED: the sum (i = -1), how many WORDS (i = -2), the i-th; NONE.")
  static void partBehindTheLastWordIsNone() {
    KeyDesk x = guessing();
    Due.is(x.part(7, 0), 0);
    for (int i : Desk.above(0)) {
      Due.is(x.part(7, i), -6);
    }
  }

  @Edge(promise = 24, sentence = "PARTED: the sum (i = -1), how many WORDS (i = -2), the i-th; NONE.")
  static void partBelowMinus2IsNone() {
    for (int i : Desk.below(-2)) {
      Due.is(guessing().part(7, i), -6);
    }
  }

  /** PARTED: the sum, then the number of each WORD and how many KEYS its piece has. */
  private static void parted(KeyDesk x, int tongues, int sum, int... wordsAndKeys) {
    int n = wordsAndKeys.length / 2;
    Due.is(x.part(tongues, -1), sum);
    Due.is(x.part(tongues, -2), n);
    for (int i = 0; i < n; i++) {
      Due.is(x.part(tongues, i), wordsAndKeys[2 * i]);
      Due.is(x.pieceOf(tongues, i), wordsAndKeys[2 * i + 1]);
    }
    Due.is(x.part(tongues, n), -6);
    Due.is(x.pieceOf(tongues, n), -6);
  }

  @Edge(promise = 24, sentence = "into 1 to 4 WORDS of some TONGUES, one behind the other (each piece 1 KEY at least")
  static void oneKeyIsOneWord() {
    parted(guessing(), 7, 0, 0, 1);
  }

  @Edge(promise = 24, sentence = "into 1 to 4 WORDS of some TONGUES")
  static void fourKeysAreFourWords() {
    KeyDesk x = new KeyDesk();
    Desk.word(x, 0, 1, 5);
    Desk.keys(x, 5, 5, 5, 5);
    parted(x, 1, 0, 0, 1, 0, 1, 0, 1, 0, 1);
  }

  @Edge(promise = 24, sentence = "into 1 to 4 WORDS of some TONGUES")
  static void fiveKeysAreNotFiveWords() {
    KeyDesk x = new KeyDesk();
    Desk.word(x, 0, 100, 5);
    Desk.keys(x, 5, 5, 5, 5, 5);
    // One is struck TWICE: in the last piece, for the first piece has the fewest KEYS, and so on.
    parted(x, 1, 3, 0, 1, 0, 1, 0, 1, 0, 2);
  }

  private static KeyDesk eightKeys() {
    KeyDesk x = new KeyDesk();
    Desk.word(x, 0, 1, 0, 1, 2, 3, 4, 5, 6, 7);
    return x;
  }

  @Edge(promise = 24, sentence = "(each piece 1 KEY at least, 10 at most)")
  static void pieceOf10KeysIsTaken() {
    KeyDesk x = eightKeys();
    Desk.keys(x, 0, 1, 2, 3, 4, 5, 6, 7, 11, 11);
    // WRONG and TWICE.
    parted(x, 1, 9, 0, 10);
  }

  @Edge(promise = 24, sentence = "(each piece 1 KEY at least, 10 at most)")
  static void pieceOf11KeysIsTooLong() {
    KeyDesk x = eightKeys();
    Desk.keys(x, 0, 1, 2, 3, 4, 5, 6, 7, 11, 11, 11);
    // One piece would cost 12. In two: 5 LEFT, 11 WRONG for 5, and BESIDE 6 and 7.
    parted(x, 1, 32, 0, 8, 0, 3);
  }

  @Edge(promise = 24, sentence = "with the least sum of PRICES .. TWICE, if it is that struck just ahead; else WRONG")
  static void firstKeyOfAPieceHasNoneStruckAhead() {
    KeyDesk x = new KeyDesk();
    Desk.word(x, 0, 1, 5, 6);
    Desk.word(x, 0, 1, 11);
    Desk.keys(x, 5, 6, 6, 11);
    // The second 6 is TWICE in the first piece; in the second one it would be WRONG.
    parted(x, 1, 3, 0, 3, 1, 1);
  }

  @Edge(promise = 24, sentence = "of KEYS (16 at most) .. PARTED are the KEYS on the PAD")
  static void sixteenKeysAreParted() {
    KeyDesk x = eightKeys();
    Desk.keys(x, 0, 1, 2, 3, 4, 5, 6, 7, 0, 1, 2, 3, 4, 5, 6, 7);
    parted(x, 1, 0, 0, 8, 0, 8);
    KeyDesk y = new KeyDesk();
    Desk.word(y, 0, 1, 5);
    Desk.keys(y, Desk.times(16, 5));
    parted(y, 1, 36, 0, 1, 0, 1, 0, 4, 0, 10);
  }

  /** WORD 0 is 0 of TONGUE 0, WORD 1 is 11 of TONGUE 1. */
  private static KeyDesk twoTongues() {
    KeyDesk x = new KeyDesk();
    Desk.word(x, 0, 1, 0);
    Desk.word(x, 1, 1, 11);
    return x;
  }

  @Edge(promise = 24, sentence = "and SWITCH (0 to 20; 5 at first) for each two neighbours of unlike TONGUES")
  static void switchIsPaidBetweenUnlikeNeighboursAlone() {
    KeyDesk x = twoTongues();
    Desk.keys(x, 0, 0, 11);
    parted(x, 3, 5, 0, 1, 0, 1, 1, 1);
    x.price(4, 20);
    Desk.keys(x, 0, 11, 0, 11);
    parted(x, 3, 15, 0, 1, 1, 1, 0, 1, 1, 1);
  }

  @Edge(promise = 24, sentence = "and SWITCH (0 to 20; 5 at first) for each two neighbours of unlike TONGUES")
  static void switchOf20IsPaidToo() {
    KeyDesk x = new KeyDesk();
    Desk.word(x, 0, 1, 0, 0);
    Desk.word(x, 1, 1, 11, 11);
    x.price(1, 20);
    x.price(4, 20);
    x.price(5, 20);
    Desk.keys(x, 0, 0, 11, 11);
    parted(x, 3, 20, 0, 2, 1, 2);
  }

  @Edge(promise = 24, sentence = "and SWITCH (0 to 20; 5 at first) for each two neighbours of unlike TONGUES")
  static void switchOf0CostsNothing() {
    KeyDesk x = twoTongues();
    x.price(5, 0);
    Desk.keys(x, 0, 11, 0, 11);
    parted(x, 3, 0, 0, 1, 1, 1, 0, 1, 1, 1);
  }

  @Edge(promise = 24, sentence = "for each two neighbours of unlike TONGUES")
  static void wordOfTheTongueAheadIsTakenThoughAnotherHasALesserNumber() {
    KeyDesk x = new KeyDesk();
    Desk.word(x, 0, 100, 11);
    Desk.word(x, 1, 1, 11);
    Desk.word(x, 1, 1, 0);
    Desk.keys(x, 0, 11);
    parted(x, 3, 0, 2, 1, 1, 1);
    x.price(5, 0);
    parted(x, 3, 0, 2, 1, 0, 1);
  }

  @Edge(promise = 24, sentence = "PARTED are the KEYS on the PAD into 1 to 4 WORDS")
  static void padPartedAgainIsPartedAnew() {
    KeyDesk x = new KeyDesk();
    Desk.word(x, 0, 1, 5);
    Desk.keys(x, 5, 5, 5, 5);
    parted(x, 1, 0, 0, 1, 0, 1, 0, 1, 0, 1);
    Desk.keys(x, 5);
    parted(x, 1, 0, 0, 1);
    Due.is(x.part(2, -1), -5);
    Desk.keys(x, 5, 6);
    parted(x, 1, 3, 0, 1, 0, 1);
  }

  @Edge(promise = 24, sentence = "of several that with the greatest product of COUNTS")
  static void ofLikeSumsTheGreatestProduct() {
    KeyDesk x = new KeyDesk();
    Desk.word(x, 0, 5, 1, 2);
    Desk.word(x, 0, 2, 1);
    Desk.word(x, 0, 3, 2);
    Desk.keys(x, 1, 2);
    parted(x, 1, 0, 1, 1, 2, 1);
    x.count(0, 7);
    parted(x, 1, 0, 0, 2);
  }

  @Edge(promise = 24, sentence = "of several that with the greatest product of COUNTS")
  static void greatestProductIs100FourTimes() {
    KeyDesk x = new KeyDesk();
    Desk.word(x, 0, 99, 5);
    Desk.word(x, 0, 100, 5);
    Desk.keys(x, 5, 5, 5, 5);
    parted(x, 1, 0, 1, 1, 1, 1, 1, 1, 1, 1);
  }

  @Edge(promise = 24, sentence = "then the fewest WORDS")
  static void ofLikeProductsTheFewestWords() {
    KeyDesk x = new KeyDesk();
    Desk.word(x, 0, 2, 1);
    Desk.word(x, 0, 3, 2);
    Desk.word(x, 0, 6, 1, 2);
    Desk.keys(x, 1, 2);
    parted(x, 1, 0, 2, 2);
  }

  @Edge(promise = 24, sentence = "then the first by: number of the first WORD, KEYS of the first piece, number of the second, and so on")
  static void ofAsManyWordsTheFirstByNumberOfTheFirst() {
    KeyDesk x = new KeyDesk();
    Desk.word(x, 0, 1, 1, 1);
    Desk.word(x, 0, 1, 1);
    Desk.keys(x, 1, 1, 1);
    // 0 and 1, or 1 and 0.
    parted(x, 1, 0, 0, 2, 1, 1);
    KeyDesk y = new KeyDesk();
    Desk.word(y, 0, 1, 1);
    Desk.word(y, 0, 1, 1, 1);
    Desk.keys(y, 1, 1, 1);
    parted(y, 1, 0, 0, 1, 1, 2);
  }

  @Edge(promise = 24, sentence = "KEYS of the first piece, number of the second, and so on")
  static void ofLikeFirstWordsTheFirstByKeysOfThePiece() {
    KeyDesk x = new KeyDesk();
    Desk.word(x, 0, 1, 7);
    Desk.keys(x, Desk.times(6, 7));
    parted(x, 1, 6, 0, 1, 0, 1, 0, 1, 0, 3);
  }

  @Edge(promise = 24, sentence = "number of the second, and so on")
  static void ofLikeFirstPiecesTheFirstByNumberOfTheSecond() {
    KeyDesk x = new KeyDesk();
    Desk.word(x, 0, 1, 7);
    Desk.word(x, 0, 1, 7);
    Desk.keys(x, 7, 7, 7);
    parted(x, 1, 0, 0, 1, 0, 1, 0, 1);
  }

  @Edge(promise = 24, sentence = "PARTED are the KEYS on the PAD")
  static void partLeavesThePad() {
    KeyDesk x = guessing();
    x.part(7, 0);
    x.pieceOf(7, 0);
    Due.is(x.told(0), 1);
    Due.is(x.slip(0), 0);
  }

  // ---- Promise 25: pieceOf

  @Edge(promise = 25, sentence = "KEYS of the i-th piece so; NONE. Refused likewise.")
  static void pieceOfInTonguesBeyondIsOutside() {
    for (int tongues : Desk.beyond(1, 7)) {
      Due.is(guessing().pieceOf(tongues, 0), -2);
    }
  }

  @Edge(promise = 25, sentence = "KEYS of the i-th piece so; NONE. Refused likewise.")
  static void pieceOfAnEmptyPadIsState() {
    KeyDesk x = guessing();
    x.wipe(0);
    Due.is(x.pieceOf(7, 0), -3);
    Due.is(x.pieceOf(7, -1), -3);
    Due.is(x.pieceOf(8, 0), -2);
  }

  @Edge(promise = 25, sentence = "KEYS of the i-th piece so; NONE. Refused likewise.")
  static void pieceOfWhatCanNotBePartedIsNo() {
    KeyDesk x = new KeyDesk();
    Due.is(x.pieceOf(7, 0), -3);
    x.key(1);
    Due.is(x.pieceOf(7, 0), -5);
    Due.is(x.pieceOf(7, -1), -5);
    Due.is(x.pieceOf(7, 9), -5);
    Due.is(x.pieceOf(0, 0), -2);
  }

  @Edge(promise = 25, sentence = "KEYS of the i-th piece so; NONE.")
  static void pieceOfBehindTheLastIsNone() {
    KeyDesk x = guessing();
    Due.is(x.pieceOf(7, 0), 1);
    for (int i : Desk.above(0)) {
      Due.is(x.pieceOf(7, i), -6);
    }
  }

  @Edge(promise = 25, sentence = "KEYS of the i-th piece so; NONE.")
  static void pieceOfBelow0IsNone() {
    for (int i : Desk.below(0)) {
      Due.is(guessing().pieceOf(7, i), -6);
    }
  }

  @Edge(promise = 25, sentence = "KEYS of the i-th piece so .. (each piece 1 KEY at least, 10 at most)")
  static void piecesHave1To10Keys() {
    KeyDesk x = new KeyDesk();
    Desk.word(x, 0, 1, 5);
    Desk.keys(x, Desk.times(16, 5));
    Due.is(x.pieceOf(1, 0), 1);
    Due.is(x.pieceOf(1, 1), 1);
    Due.is(x.pieceOf(1, 2), 4);
    Due.is(x.pieceOf(1, 3), 10);
    Due.is(x.pieceOf(1, 4), -6);
  }

  // ---- Promise 26: both

  @Edge(promise = 26, sentence = "(1 to 100; 40 such pairs at most; 0 of others) .. BOTH of two WORDS (0: none): which it was.")
  static void both1And100IsTaken() {
    KeyDesk x = Desk.withWords(2);
    Due.is(x.both(0, 1, 1), 0);
    Due.is(x.both(0, 1, 100), 1);
    Due.is(x.both(0, 1, 100), 100);
    Due.is(x.told(6), 1);
  }

  @Edge(promise = 26, sentence = "BOTH of two WORDS (0: none): which it was.")
  static void both0IsNone() {
    KeyDesk x = Desk.withWords(2);
    x.both(0, 1, 7);
    Due.is(x.both(0, 1, 0), 7);
    Due.is(x.told(6), 0);
    Due.is(x.both(0, 1, 0), 0);
    Due.is(x.told(6), 0);
    Due.is(x.both(0, 1, 3), 0);
  }

  @Edge(promise = 26, sentence = "(1 to 100; 40 such pairs at most; 0 of others) .. UNKNOWN; OUTSIDE; FULL.")
  static void bothBelow0IsOutside() {
    for (int n : Desk.below(0)) {
      Due.is(Desk.withWords(2).both(0, 1, n), -2);
    }
  }

  @Edge(promise = 26, sentence = "(1 to 100; 40 such pairs at most; 0 of others) .. UNKNOWN; OUTSIDE; FULL.")
  static void bothAbove100IsOutside() {
    for (int n : Desk.above(100)) {
      Due.is(Desk.withWords(2).both(0, 1, n), -2);
    }
  }

  @Edge(promise = 26, sentence = "there is no such .. WORD .. UNKNOWN; OUTSIDE; FULL.")
  static void bothWithNoFirstWordIsUnknown() {
    Due.is(new KeyDesk().both(0, 0, 1), -1);
    for (int word : Desk.beyond(0, 1)) {
      Due.is(Desk.withWords(2).both(word, 0, 1), -1);
    }
  }

  @Edge(promise = 26, sentence = "there is no such .. WORD .. UNKNOWN; OUTSIDE; FULL.")
  static void bothWithNoSecondWordIsUnknown() {
    for (int word : Desk.beyond(0, 1)) {
      Due.is(Desk.withWords(2).both(0, word, 1), -1);
    }
  }

  @Edge(promise = 26, sentence = "40 such pairs at most")
  static void pair40IsTheLast() {
    KeyDesk x = Desk.withWords(41);
    for (int n = 1; n <= 40; n++) {
      Due.is(x.both(0, n, 1), 0);
      Due.is(x.told(6), n);
    }
  }

  @Edge(promise = 26, sentence = "40 such pairs at most .. UNKNOWN; OUTSIDE; FULL.")
  static void pair41IsFull() {
    KeyDesk x = Desk.withWords(7);
    Desk.fillPairs(x);
    Due.is(x.told(6), 40);
    Due.is(x.both(6, 6, 1), -4);
    Due.is(x.both(6, 6, 100), -4);
    Due.is(x.told(6), 40);
  }

  @Edge(promise = 26, sentence = "40 such pairs at most")
  static void pairThatCameCanBeSetWhereAllAreThere() {
    KeyDesk x = Desk.withWords(7);
    Desk.fillPairs(x);
    Due.is(x.both(0, 0, 100), 1);
    Due.is(x.both(0, 0, 9), 100);
    Due.is(x.told(6), 40);
  }

  @Edge(promise = 26, sentence = "40 such pairs at most; 0 of others .. (0: none)")
  static void pairThatDidNotComeCanBeSetTo0WhereAllAreThere() {
    KeyDesk x = Desk.withWords(7);
    Desk.fillPairs(x);
    Due.is(x.both(6, 6, 0), 0);
    Due.is(x.told(6), 40);
  }

  @Edge(promise = 26, sentence = "40 such pairs at most .. (0: none)")
  static void pairThatGoesMakesRoom() {
    KeyDesk x = Desk.withWords(7);
    Desk.fillPairs(x);
    Due.is(x.both(0, 0, 0), 1);
    Due.is(x.told(6), 39);
    Due.is(x.both(6, 6, 2), 0);
    Due.is(x.told(6), 40);
    Due.is(x.both(0, 0, 1), -4);
  }

  @Edge(promise = 26, sentence = "how often two WORDS came one behind the other")
  static void pairTheOtherWayAroundIsAnother() {
    KeyDesk x = Desk.withWords(2);
    Due.is(x.both(0, 1, 5), 0);
    Due.is(x.both(1, 0, 6), 0);
    Due.is(x.both(0, 0, 7), 0);
    Due.is(x.told(6), 3);
    Due.is(x.both(0, 1, 1), 5);
    Due.is(x.both(1, 0, 1), 6);
    Due.is(x.both(0, 0, 1), 7);
  }

  @Edge(promise = 26, sentence = "the first of these that fits")
  static void bothUnknownGoesFirst() {
    KeyDesk x = Desk.withWords(7);
    Due.is(x.both(7, 0, 101), -1);
    Due.is(x.both(0, -1, -1), -1);
    Desk.fillPairs(x);
    Due.is(x.both(7, 6, 1), -1);
  }

  @Edge(promise = 26, sentence = "the first of these that fits")
  static void bothOutsideGoesAheadOfFull() {
    KeyDesk x = Desk.withWords(7);
    Desk.fillPairs(x);
    Due.is(x.both(6, 6, 101), -2);
    Due.is(x.both(6, 6, -1), -2);
  }

  @Edge(promise = 26, sentence = "They change nothing.")
  static void refusedBothChangesNothing() {
    Twins.refused(-1, x -> x.both(0, 3, 1));
    Twins.refused(-1, x -> x.both(-1, 0, 1));
    Twins.refused(-2, x -> x.both(0, 2, 101));
    Twins.refused(-2, x -> x.both(0, 2, -1));
    Twins.refused(-4, x -> {
      for (int n = x.told(5); n < 7; n++) {
        Desk.word(x, 2, 1, 4);
      }
      for (int n = 0; n < 49 && x.told(6) < 40; n++) {
        x.both(6 - n / 7, n % 7, 1);
      }
    }, x -> x.both(0, 0, 1));
  }

  // ---- Promise 27: say

  @Edge(promise = 27, sentence = "of WORDS (5) .. A WORD more on the PAD, FIXED or not: how many.")
  static void padTakes5Words() {
    KeyDesk x = Desk.withWords(2);
    for (int n = 1; n <= 5; n++) {
      Due.is(x.say(n % 2, n % 2 == 0), n);
    }
    Due.is(x.told(2), 5);
  }

  @Edge(promise = 27, sentence = "of WORDS (5) .. UNKNOWN; FULL.")
  static void word6OnThePadIsFull() {
    KeyDesk x = Desk.withWords(2);
    for (int n = 1; n <= 5; n++) {
      x.say(0, false);
    }
    Due.is(x.say(1, true), -4);
    Due.is(x.say(0, false), -4);
    Due.is(x.told(2), 5);
  }

  @Edge(promise = 27, sentence = "there is no such .. WORD .. UNKNOWN; FULL.")
  static void sayOfNoWordIsUnknown() {
    Due.is(new KeyDesk().say(0, true), -1);
    for (int word : Desk.beyond(0, 1)) {
      Due.is(Desk.withWords(2).say(word, false), -1);
    }
  }

  @Edge(promise = 27, sentence = "WORDS, 60 at most .. A WORD more on the PAD")
  static void word59CanBeSaid() {
    KeyDesk x = Desk.withWords(60);
    Due.is(x.say(59, true), 1);
    Due.is(x.say(0, true), 2);
    Due.is(x.say(60, true), -1);
    Due.is(x.chosen(0), 59);
  }

  @Edge(promise = 27, sentence = "the first of these that fits")
  static void sayUnknownGoesAheadOfFull() {
    KeyDesk x = Desk.withWords(2);
    for (int n = 1; n <= 5; n++) {
      x.say(0, false);
    }
    Due.is(x.say(2, true), -1);
    Due.is(x.say(-1, true), -1);
  }

  @Edge(promise = 27, sentence = "They change nothing.")
  static void refusedSayChangesNothing() {
    Twins.refused(-1, x -> x.say(3, true));
    Twins.refused(-1, x -> x.say(-1, false));
    Twins.refused(-4, x -> {
      for (int n = x.told(2); n < 5; n++) {
        x.say(0, false);
      }
    }, x -> x.say(2, true));
  }

  // ---- Promise 28: chosen

  @Edge(promise = 28, sentence = "CHOSEN for the i-th on the PAD: the WORD; NONE: no such.")
  static void onAnEmptyPadNothingIsChosen() {
    Due.is(new KeyDesk().chosen(0), -6);
    Due.is(Desk.withWords(3).chosen(0), -6);
  }

  @Edge(promise = 28, sentence = "CHOSEN for the i-th on the PAD: the WORD; NONE: no such.")
  static void chosenBehindTheLastIsNone() {
    KeyDesk x = Desk.withWords(2);
    x.say(1, false);
    x.say(0, false);
    Due.is(x.chosen(0), 1);
    Due.is(x.chosen(1), 0);
    for (int i : Desk.above(1)) {
      Due.is(x.chosen(i), -6);
    }
  }

  @Edge(promise = 28, sentence = "CHOSEN for the i-th on the PAD: the WORD; NONE: no such.")
  static void chosenBelow0IsNone() {
    KeyDesk x = Desk.withWords(2);
    x.say(1, false);
    for (int i : Desk.below(0)) {
      Due.is(x.chosen(i), -6);
    }
  }

  @Edge(promise = 28, sentence = "of WORDS (5) .. CHOSEN for the i-th on the PAD: the WORD")
  static void fullPadIsChosenUpToItsLast() {
    KeyDesk x = Desk.withWords(5);
    for (int n = 4; n >= 0; n--) {
      x.say(n, false);
    }
    for (int i = 0; i < 5; i++) {
      Due.is(x.chosen(i), 4 - i);
    }
    Due.is(x.chosen(5), -6);
  }

  @Edge(promise = 28, sentence = "CHOSEN for the i-th on the PAD: the WORD; NONE: no such.")
  static void fewerWordsOnThePadAreChosenAnew() {
    KeyDesk x = Desk.withWords(5);
    for (int n = 0; n < 5; n++) {
      x.say(n, false);
    }
    Due.is(x.chosen(4), 4);
    x.wipe(2);
    Due.is(x.chosen(0), -6);
    x.say(3, true);
    Due.is(x.chosen(0), 3);
    Due.is(x.chosen(1), -6);
    Due.is(x.product(), 1);
  }

  @Edge(promise = 28, sentence = "SOUND of a WORD: all WORDS of its TONGUE with its KEYS.")
  static void otherTongueOrOtherKeysIsNotItsSound() {
    KeyDesk x = new KeyDesk();
    Desk.word(x, 0, 1, 1, 2);
    Desk.word(x, 1, 100, 1, 2);
    Desk.word(x, 0, 100, 2, 1);
    Desk.word(x, 0, 100, 1);
    Desk.word(x, 0, 100, 1, 2, 2);
    x.say(0, false);
    Due.is(x.chosen(0), 0);
    Desk.word(x, 0, 2, 1, 2);
    Due.is(x.chosen(0), 5);
  }

  @Edge(promise = 28, sentence = "WORDS, 60 at most .. SOUND of a WORD: all WORDS of its TONGUE with its KEYS.")
  static void soundOf60Words() {
    KeyDesk x = new KeyDesk();
    for (int n = 0; n < 60; n++) {
      Desk.word(x, 0, 1, 3);
    }
    x.say(30, false);
    Due.is(x.chosen(0), 0);
    x.count(59, 2);
    Due.is(x.chosen(0), 59);
  }

  @Edge(promise = 28, sentence = "is greatest; of several the first by numbers")
  static void ofLikeProductsTheFirstByNumbersIsChosen() {
    KeyDesk x = new KeyDesk();
    Desk.word(x, 0, 2, 1);
    Desk.word(x, 0, 2, 1);
    Desk.word(x, 0, 2, 1);
    x.say(2, false);
    x.say(2, false);
    x.both(1, 1, 3);
    x.both(0, 2, 3);
    Due.is(x.chosen(0), 0);
    Due.is(x.chosen(1), 2);
    x.both(1, 0, 3);
    x.both(0, 2, 2);
    Due.is(x.chosen(0), 1);
    Due.is(x.chosen(1), 0);
  }

  @Edge(promise = 28, sentence = "(BOTH and 1) of neighbours")
  static void onlyNeighboursInTheirOrderCount() {
    KeyDesk x = new KeyDesk();
    Desk.word(x, 0, 1, 1);
    Desk.word(x, 0, 1, 1);
    Desk.word(x, 0, 1, 2);
    // 1 behind 2, and 1 with another between, do not count.
    x.both(2, 1, 100);
    x.both(1, 0, 100);
    x.say(0, false);
    x.say(2, false);
    Due.is(x.chosen(0), 0);
    Due.is(x.chosen(1), 2);
    x.both(1, 2, 1);
    Due.is(x.chosen(0), 1);
  }

  @Edge(promise = 28, sentence = "A WORD may be FIXED on the PAD: it is chosen as it is.")
  static void fixedWordIsChosenThoughOthersAreGreater() {
    KeyDesk x = new KeyDesk();
    Desk.word(x, 0, 100, 1);
    Desk.word(x, 0, 1, 1);
    for (int n = 0; n < 5; n++) {
      x.say(1, n == 4);
    }
    Due.is(x.chosen(3), 0);
    Due.is(x.chosen(4), 1);
    x.wipe(2);
    for (int n = 0; n < 5; n++) {
      x.say(1, n == 0);
    }
    Due.is(x.chosen(0), 1);
    Due.is(x.chosen(1), 0);
  }

  // ---- Promise 29: product

  @Edge(promise = 29, sentence = "(0: the PAD is empty)")
  static void productOfAnEmptyPadIs0() {
    Due.is(new KeyDesk().product(), 0);
    KeyDesk x = Desk.withWords(1);
    Due.is(x.product(), 0);
    x.say(0, false);
    Due.is(x.product(), 1);
    x.wipe(2);
    Due.is(x.product(), 0);
  }

  @Edge(promise = 29, sentence = "a COUNT (1 to 100) .. The product of what is CHOSEN")
  static void leastProductIs1() {
    KeyDesk x = Desk.withWords(1);
    for (int n = 0; n < 5; n++) {
      x.say(0, n % 2 == 0);
    }
    Due.is(x.product(), 1);
  }

  @Edge(promise = 29, sentence = "the product of all COUNTS, and of (BOTH and 1) of neighbours .. The product of what is CHOSEN")
  static void greatestProductIsBeyondAnInt() {
    KeyDesk x = new KeyDesk();
    Desk.word(x, 0, 100, 1);
    x.both(0, 0, 100);
    for (int n = 0; n < 5; n++) {
      x.say(0, false);
    }
    // 100 five times, 101 four times.
    Due.is(x.product(), 1040604010000000000L);
  }

  @Edge(promise = 29, sentence = "The product of what is CHOSEN")
  static void productOfFixedWordsIsTheirs() {
    KeyDesk x = new KeyDesk();
    Desk.word(x, 0, 100, 1);
    Desk.word(x, 0, 3, 1);
    x.say(1, true);
    Due.is(x.product(), 3);
    x.say(1, false);
    Due.is(x.product(), 300);
    x.both(1, 1, 40);
    Due.is(x.product(), 369);
  }
}
