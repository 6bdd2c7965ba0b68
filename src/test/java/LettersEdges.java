/** Edges of promises 1 to 17: a new object, PADS, RULES, JOINS, THE LINE. */
final class LettersEdges {
  private LettersEdges() {
  }

  // ---- Promise 1: a new object

  @Edge(promise = 1, sentence = "PADS, THE LINE are empty")
  static void newPadsAreEmpty() {
    KeyDesk x = new KeyDesk();
    for (int which = 0; which <= 2; which++) {
      Due.is(x.told(which), 0);
      Due.is(x.wipe(which), 0);
    }
  }

  @Edge(promise = 1, sentence = "PADS, THE LINE are empty")
  static void newLineIsEmpty() {
    KeyDesk x = new KeyDesk();
    Due.is(x.told(4), 0);
    Due.is(x.stands(-1), 0);
    Due.is(x.piece(-1), 0);
    Due.is(x.back(0), -2);
  }

  @Edge(promise = 1, sentence = "its TONGUE (0 at first)")
  static void newLineIsInTongue0() {
    Due.is(new KeyDesk().told(3), 0);
    Due.is(new KeyDesk().speak(1), 0);
  }

  @Edge(promise = 1, sentence = "no RULES, JOINS, LETTERS, WORDS, learnings")
  static void newHasNoRules() {
    KeyDesk x = new KeyDesk();
    for (int t = 0; t < 3; t++) {
      Due.is(x.told(10 + t), 0);
      Due.is(x.idle(t, 1), 4095);
    }
  }

  @Edge(promise = 1, sentence = "no RULES, JOINS, LETTERS, WORDS, learnings")
  static void newHasNoJoins() {
    KeyDesk x = new KeyDesk();
    for (int t = 0; t < 3; t++) {
      Due.is(x.told(20 + t), 0);
    }
  }

  @Edge(promise = 1, sentence = "no RULES, JOINS, LETTERS, WORDS, learnings")
  static void newHasNoLetters() {
    KeyDesk x = new KeyDesk();
    for (int t = 0; t < 3; t++) {
      Due.is(x.missing(t, -1), 0);
      for (int l = 1; l <= 60; l++) {
        Due.is(x.own(t, l, false), 0);
      }
    }
  }

  @Edge(promise = 1, sentence = "no RULES, JOINS, LETTERS, WORDS, learnings")
  static void newHasNoWords() {
    KeyDesk x = new KeyDesk();
    Due.is(x.told(5), 0);
    Due.is(x.ofWord(0, 0), -1);
  }

  @Edge(promise = 1, sentence = "no RULES, JOINS, LETTERS, WORDS, learnings")
  static void newHasNoLearnings() {
    KeyDesk x = new KeyDesk();
    Due.is(x.told(7), 0);
    for (int hand = 0; hand < 4; hand++) {
      Due.is(x.forget(hand, -1), 0);
    }
  }

  @Edge(promise = 1, sentence = "As told at first .. 0 BESIDE (3 at first), 1 TWICE (3), 2 LEFT (4), 3 ORDER (3), "
      + "4 WRONG (6) .. 5 at first")
  static void newPricesAreThoseAtFirst() {
    KeyDesk x = new KeyDesk();
    int[] atFirst = {3, 3, 4, 3, 6, 5};
    for (int which = 0; which <= 5; which++) {
      Due.is(x.price(which, 1), atFirst[which]);
    }
  }

  @Edge(promise = 1, sentence = "0 of others")
  static void newWordsHaveNotComeTogether() {
    KeyDesk x = Desk.withWords(2);
    Due.is(x.told(6), 0);
    Due.is(x.both(0, 1, 1), 0);
    Due.is(x.both(1, 1, 1), 0);
  }

  @Edge(promise = 1, sentence = "FADE (0 to 1000; 900 at first)")
  static void newFadeIs900() {
    Due.is(new KeyDesk().fade(0), 900);
  }

  @Edge(promise = 1, sentence = "0 to 1000 (100 at first)")
  static void newBudgetsAre100() {
    KeyDesk x = new KeyDesk();
    for (int hand = 0; hand < 4; hand++) {
      Due.is(x.told(30 + hand), 100);
      Due.is(x.budget(hand, 0), 100);
    }
  }

  @Edge(promise = 1, sentence = "1 to 1000000; 1 at first")
  static void newSeedIs1() {
    Due.is(new KeyDesk().seed(2), 1);
  }

  @Edge(promise = 1, sentence = "SYMBOLS (2 to 7; 4 at first)")
  static void newSymbolsAre4() {
    Due.is(new KeyDesk().told(8), 4);
    Due.is(new KeyDesk().symbols(2), 4);
    Due.is(new KeyDesk().best(), 123);
  }

  @Edge(promise = 1, sentence = "EFFORT of a PLACE (0 to 20; 1 at first), FINGER of it (0 to 4; 0), "
      + "LOAD of a SYMBOL (0 to 99; 0)")
  static void newPlacesAndSymbolsAreAsAtFirst() {
    KeyDesk x = new KeyDesk();
    for (int i = 0; i < 4; i++) {
      Due.is(x.set(0, i, 2), 1);
      Due.is(x.set(1, i, 2), 0);
      Due.is(x.set(2, i, 2), 0);
    }
  }

  @Edge(promise = 1, sentence = "PAIR of two SYMBOLS, one behind the other (0 to 50; 0)")
  static void newPairsAre0() {
    KeyDesk x = new KeyDesk();
    for (int a = 0; a < 4; a++) {
      for (int b = 0; b < 4; b++) {
        Due.is(x.pair(a, b, 1), 0);
      }
    }
  }

  @Edge(promise = 1, sentence = "SAME (0 to 20; 5)")
  static void newSameIs5() {
    Due.is(new KeyDesk().same(0), 5);
  }

  @Edge(promise = 1, sentence = "As told at first")
  static void newObjectKnowsNothingOfAnother() {
    KeyDesk other = Desk.withWords(3);
    other.key(1);
    other.price(0, 9);
    other.fade(3);
    other.seed(4);
    other.same(6);
    other.budget(0, 0);
    other.symbols(6);
    KeyDesk x = new KeyDesk();
    Due.is(x.told(0), 0);
    Due.is(x.told(5), 0);
    Due.is(x.price(0, 1), 3);
    Due.is(x.fade(1), 900);
    Due.is(x.seed(1), 1);
    Due.is(x.same(1), 5);
    Due.is(x.told(30), 100);
    Due.is(x.told(8), 4);
  }

  @Edge(promise = 1, sentence = "An object is used for at most 512 calls after it has been made")
  static void call512IsAnsweredAsAnyOther() {
    KeyDesk x = new KeyDesk();
    for (int call = 1; call <= 511; call++) {
      Due.is(x.own(call % 3, 1 + call % 60, true), call > 60 ? 1 : 0);
    }
    // The call with number 512.
    Due.is(x.missing(0, -1), 20);
  }

  // ---- Promise 2: key

  @Edge(promise = 2, sentence = "KEYS 0 to 11 lie in rows of four")
  static void key0IsTaken() {
    Due.is(new KeyDesk().key(0), 1);
  }

  @Edge(promise = 2, sentence = "KEYS 0 to 11 lie in rows of four")
  static void key11IsTaken() {
    Due.is(new KeyDesk().key(11), 1);
  }

  @Edge(promise = 2, sentence = "KEYS 0 to 11 .. OUTSIDE; FULL.")
  static void keyBelow0IsOutside() {
    for (int k : Desk.below(0)) {
      Due.is(new KeyDesk().key(k), -2);
    }
  }

  @Edge(promise = 2, sentence = "KEYS 0 to 11 .. OUTSIDE; FULL.")
  static void keyAbove11IsOutside() {
    for (int k : Desk.above(11)) {
      Due.is(new KeyDesk().key(k), -2);
    }
  }

  @Edge(promise = 2, sentence = "of KEYS (16 at most) .. A KEY more on the PAD: how many.")
  static void padTakes16Keys() {
    KeyDesk x = new KeyDesk();
    for (int n = 1; n <= 16; n++) {
      Due.is(x.key(n % 12), n);
    }
    Due.is(x.told(0), 16);
  }

  @Edge(promise = 2, sentence = "of KEYS (16 at most) .. OUTSIDE; FULL.")
  static void key17IsFull() {
    KeyDesk x = new KeyDesk();
    Desk.keys(x, Desk.times(16, 4));
    Due.is(x.key(4), -4);
    Due.is(x.key(0), -4);
    Due.is(x.told(0), 16);
  }

  @Edge(promise = 2, sentence = "the first of these that fits")
  static void keyOutsideGoesAheadOfFull() {
    KeyDesk x = new KeyDesk();
    Desk.keys(x, Desk.times(16, 4));
    Due.is(x.key(12), -2);
    Due.is(x.key(-1), -2);
  }

  @Edge(promise = 2, sentence = "They change nothing.")
  static void refusedKeyChangesNothing() {
    Twins.refused(-2, x -> x.key(12));
    Twins.refused(-2, x -> x.key(-1));
    Twins.refused(-4, x -> Desk.keys(x, Desk.times(16, 4)), x -> x.key(5));
  }

  // ---- Promise 3: letter

  @Edge(promise = 3, sentence = "LETTERS are 1 to 60.")
  static void letter1IsTaken() {
    Due.is(new KeyDesk().letter(1), 1);
  }

  @Edge(promise = 3, sentence = "LETTERS are 1 to 60.")
  static void letter60IsTaken() {
    Due.is(new KeyDesk().letter(60), 1);
  }

  @Edge(promise = 3, sentence = "LETTERS are 1 to 60. .. OUTSIDE; FULL.")
  static void letterBelow1IsOutside() {
    for (int l : Desk.below(1)) {
      Due.is(new KeyDesk().letter(l), -2);
    }
  }

  @Edge(promise = 3, sentence = "LETTERS are 1 to 60. .. OUTSIDE; FULL.")
  static void letterAbove60IsOutside() {
    for (int l : Desk.above(60)) {
      Due.is(new KeyDesk().letter(l), -2);
    }
  }

  @Edge(promise = 3, sentence = "of LETTERS (3) .. A LETTER more on the PAD: how many.")
  static void padTakes3Letters() {
    KeyDesk x = new KeyDesk();
    Due.is(x.letter(7), 1);
    Due.is(x.letter(7), 2);
    Due.is(x.letter(60), 3);
    Due.is(x.told(1), 3);
  }

  @Edge(promise = 3, sentence = "of LETTERS (3) .. OUTSIDE; FULL.")
  static void letter4IsFull() {
    KeyDesk x = new KeyDesk();
    Desk.letters(x, 1, 2, 3);
    Due.is(x.letter(4), -4);
    Due.is(x.told(1), 3);
  }

  @Edge(promise = 3, sentence = "the first of these that fits")
  static void letterOutsideGoesAheadOfFull() {
    KeyDesk x = new KeyDesk();
    Desk.letters(x, 1, 2, 3);
    Due.is(x.letter(0), -2);
    Due.is(x.letter(61), -2);
  }

  @Edge(promise = 3, sentence = "They change nothing.")
  static void refusedLetterChangesNothing() {
    Twins.refused(-2, x -> x.letter(0));
    Twins.refused(-2, x -> x.letter(61));
    Twins.refused(-4, x -> Desk.letters(x, 1, 2, 3), x -> x.letter(9));
  }

  // ---- Promise 4: wipe

  @Edge(promise = 4, sentence = "is emptied: how many there were.")
  static void wipeOfEmptyPadsTells0() {
    for (int which = 0; which <= 2; which++) {
      Due.is(new KeyDesk().wipe(which), 0);
    }
  }

  @Edge(promise = 4, sentence = "PAD of KEYS (0), LETTERS (1), WORDS (2, and what is FIXED) is emptied: how many there were.")
  static void wipeOfFullPadsTellsAll() {
    KeyDesk x = fullPads();
    Due.is(x.wipe(0), 16);
    Due.is(x.wipe(1), 3);
    Due.is(x.wipe(2), 5);
    for (int which = 0; which <= 2; which++) {
      Due.is(x.told(which), 0);
    }
  }

  private static KeyDesk fullPads() {
    KeyDesk x = Desk.withWords(1);
    Desk.keys(x, Desk.times(16, 2));
    Desk.letters(x, 4, 5, 6);
    for (int n = 0; n < 5; n++) {
      x.say(0, true);
    }
    return x;
  }

  @Edge(promise = 4, sentence = "PAD of KEYS (0), LETTERS (1), WORDS (2, and what is FIXED) is emptied")
  static void wipeOfOnePadLeavesTheOthers() {
    int[] full = {16, 3, 5};
    for (int which = 0; which <= 2; which++) {
      KeyDesk x = fullPads();
      x.wipe(which);
      for (int pad = 0; pad <= 2; pad++) {
        Due.is(x.told(pad), pad == which ? 0 : full[pad]);
      }
    }
  }

  @Edge(promise = 4, sentence = "is emptied")
  static void wipedPadsTakeAsManyAgain() {
    KeyDesk x = fullPads();
    for (int which = 0; which <= 2; which++) {
      x.wipe(which);
    }
    for (int n = 1; n <= 16; n++) {
      Due.is(x.key(1), n);
    }
    for (int n = 1; n <= 3; n++) {
      Due.is(x.letter(1), n);
    }
    for (int n = 1; n <= 5; n++) {
      Due.is(x.say(0, false), n);
    }
  }

  @Edge(promise = 4, sentence = "WORDS (2, and what is FIXED) is emptied")
  static void wipeOfWordsUnfixes() {
    KeyDesk x = new KeyDesk();
    Desk.word(x, 0, 9, 1);
    Desk.word(x, 0, 2, 1);
    for (int n = 0; n < 5; n++) {
      x.say(1, true);
    }
    Due.is(x.chosen(4), 1);
    x.wipe(2);
    for (int n = 0; n < 5; n++) {
      x.say(1, false);
    }
    for (int i = 0; i < 5; i++) {
      Due.is(x.chosen(i), 0);
    }
  }

  @Edge(promise = 4, sentence = "PAD of KEYS (0) .. OUTSIDE.")
  static void wipeBelow0IsOutside() {
    for (int which : Desk.below(0)) {
      Due.is(new KeyDesk().wipe(which), -2);
    }
  }

  @Edge(promise = 4, sentence = "WORDS (2, and what is FIXED) .. OUTSIDE.")
  static void wipeAbove2IsOutside() {
    for (int which : Desk.above(2)) {
      Due.is(new KeyDesk().wipe(which), -2);
    }
  }

  @Edge(promise = 4, sentence = "They change nothing.")
  static void refusedWipeChangesNothing() {
    Twins.refused(-2, x -> x.wipe(-1));
    Twins.refused(-2, x -> x.wipe(3));
  }

  // ---- Promise 5: rule

  @Edge(promise = 5, sentence = "TONGUES 0 to 2 have RULES")
  static void ruleOfTongues0And2IsTaken() {
    KeyDesk x = new KeyDesk();
    Due.is(Desk.rule(x, 0, Desk.row(1), 1), 0);
    Due.is(Desk.rule(x, 2, Desk.row(1), 1), 0);
    Due.is(x.told(10), 1);
    Due.is(x.told(11), 0);
    Due.is(x.told(12), 1);
  }

  @Edge(promise = 5, sentence = "TONGUES 0 to 2 .. UNKNOWN; FULL; NO")
  static void ruleOfTongueBelow0IsUnknown() {
    for (int t : Desk.below(0)) {
      Due.is(Desk.rule(new KeyDesk(), t, Desk.row(1), 1), -1);
    }
  }

  @Edge(promise = 5, sentence = "TONGUES 0 to 2 .. UNKNOWN; FULL; NO")
  static void ruleOfTongueAbove2IsUnknown() {
    for (int t : Desk.above(2)) {
      Due.is(Desk.rule(new KeyDesk(), t, Desk.row(1), 1), -1);
    }
  }

  @Edge(promise = 5, sentence = "RULES, 24 at most each, numbered from 0 on as they are told")
  static void rule23IsTheLastOfATongue() {
    KeyDesk x = new KeyDesk();
    for (int n = 0; n < 24; n++) {
      Due.is(Desk.rule(x, 1, Desk.row(n % 12), 1), n);
    }
    Due.is(x.told(11), 24);
  }

  @Edge(promise = 5, sentence = "RULES, 24 at most each .. UNKNOWN; FULL; NO")
  static void rule24IsFull() {
    KeyDesk x = new KeyDesk();
    Desk.fillRules(x, 1);
    Due.is(Desk.rule(x, 1, Desk.row(2), 2), -4);
    Due.is(x.told(11), 24);
  }

  @Edge(promise = 5, sentence = "24 at most each")
  static void fullTongueLeavesRoomInOthers() {
    KeyDesk x = new KeyDesk();
    Desk.fillRules(x, 1);
    Due.is(Desk.rule(x, 0, Desk.row(2), 2), 0);
    Due.is(Desk.rule(x, 2, Desk.row(2), 2), 0);
  }

  @Edge(promise = 5, sentence = "a row of 1 to 4 KEYS makes 1 to 3 LETTERS")
  static void ruleOf1KeyAnd1LetterIsTaken() {
    KeyDesk x = new KeyDesk();
    Due.is(Desk.rule(x, 0, Desk.row(3), 9), 0);
    Desk.line(x, 3);
    Desk.stands(x, 9);
  }

  @Edge(promise = 5, sentence = "a row of 1 to 4 KEYS makes 1 to 3 LETTERS")
  static void ruleOf4KeysAnd3LettersIsTaken() {
    KeyDesk x = new KeyDesk();
    Due.is(Desk.rule(x, 0, Desk.row(0, 11, 0, 11), 1, 60, 1), 0);
    Desk.line(x, 0, 11, 0, 11);
    Desk.stands(x, 1, 60, 1);
  }

  @Edge(promise = 5, sentence = "NO: one of both is empty, or there are more than 4 KEYS.")
  static void ruleOf5KeysIsNo() {
    KeyDesk x = new KeyDesk();
    Due.is(Desk.rule(x, 0, Desk.row(1, 2, 3, 4, 5), 1), -5);
    Due.is(x.told(10), 0);
  }

  @Edge(promise = 5, sentence = "NO: one of both is empty, or there are more than 4 KEYS.")
  static void ruleOf16KeysIsNo() {
    KeyDesk x = new KeyDesk();
    Due.is(Desk.rule(x, 0, Desk.times(16, 1), 1), -5);
    Due.is(x.told(10), 0);
  }

  @Edge(promise = 5, sentence = "NO: one of both is empty")
  static void ruleWithoutKeysIsNo() {
    KeyDesk x = new KeyDesk();
    x.letter(1);
    Due.is(x.rule(0), -5);
    Due.is(x.told(10), 0);
  }

  @Edge(promise = 5, sentence = "NO: one of both is empty")
  static void ruleWithoutLettersIsNo() {
    KeyDesk x = new KeyDesk();
    x.key(1);
    Due.is(x.rule(0), -5);
    Due.is(x.told(10), 0);
  }

  @Edge(promise = 5, sentence = "NO: one of both is empty")
  static void ruleOfEmptyPadsIsNo() {
    Due.is(new KeyDesk().rule(0), -5);
  }

  @Edge(promise = 5, sentence = "the first of these that fits")
  static void ruleUnknownGoesAheadOfNo() {
    KeyDesk x = new KeyDesk();
    Due.is(x.rule(3), -1);
    Due.is(x.rule(-1), -1);
    Desk.keys(x, 1, 2, 3, 4, 5);
    Due.is(x.rule(3), -1);
  }

  @Edge(promise = 5, sentence = "the first of these that fits")
  static void ruleFullGoesAheadOfNo() {
    KeyDesk x = new KeyDesk();
    Desk.fillRules(x, 2);
    Due.is(x.rule(2), -4);
    Due.is(Desk.rule(x, 2, Desk.row(1, 2, 3, 4, 5), 1), -4);
  }

  @Edge(promise = 5, sentence = "calls that take a PAD empty it")
  static void ruleEmptiesBothPads() {
    KeyDesk x = new KeyDesk();
    Desk.rule(x, 0, Desk.row(1, 2, 3, 4), 1, 2, 3);
    Due.is(x.told(0), 0);
    Due.is(x.told(1), 0);
    Due.is(x.rule(0), -5);
  }

  @Edge(promise = 5, sentence = "They change nothing.")
  static void refusedRuleChangesNothing() {
    Twins.refused(-1, x -> x.rule(3));
    Twins.refused(-1, x -> x.rule(-1));
    Twins.refused(-5, x -> x.wipe(0), x -> x.rule(0));
    Twins.refused(-5, x -> x.wipe(1), x -> x.rule(0));
    Twins.refused(-5, x -> Desk.keys(x, 1, 2, 3, 4, 5), x -> x.rule(0));
    Twins.refused(-4, x -> {
      Desk.fillRules(x, 2);
      Desk.keys(x, 1, 2);
      Desk.letters(x, 3);
    }, x -> x.rule(2));
  }

  // ---- Promise 6: join

  @Edge(promise = 6, sentence = "TONGUES 0 to 2 have .. JOINS, 12 at most each")
  static void joinOfTongues0And2IsTaken() {
    KeyDesk x = new KeyDesk();
    Due.is(x.join(0, 1, 1, 1), 1);
    Due.is(x.join(2, 1, 1, 1), 1);
    Due.is(x.told(20), 1);
    Due.is(x.told(21), 0);
    Due.is(x.told(22), 1);
  }

  @Edge(promise = 6, sentence = "TONGUES 0 to 2 .. UNKNOWN; OUTSIDE; FULL.")
  static void joinOfTongueBelow0IsUnknown() {
    for (int t : Desk.below(0)) {
      Due.is(new KeyDesk().join(t, 1, 1, 1), -1);
    }
  }

  @Edge(promise = 6, sentence = "TONGUES 0 to 2 .. UNKNOWN; OUTSIDE; FULL.")
  static void joinOfTongueAbove2IsUnknown() {
    for (int t : Desk.above(2)) {
      Due.is(new KeyDesk().join(t, 1, 1, 1), -1);
    }
  }

  @Edge(promise = 6, sentence = "LETTERS are 1 to 60. .. A JOIN: how many.")
  static void joinOfLetters1And60IsTaken() {
    KeyDesk x = new KeyDesk();
    Due.is(x.join(0, 1, 60, 60), 1);
    Due.is(x.join(0, 60, 1, 1), 2);
    Due.is(x.join(0, 60, 60, 60), 3);
    Due.is(x.join(0, 1, 1, 1), 4);
  }

  @Edge(promise = 6, sentence = "LETTERS are 1 to 60. .. UNKNOWN; OUTSIDE; FULL.")
  static void joinOfFirstLetterBeyondIsOutside() {
    for (int a : Desk.beyond(1, 60)) {
      Due.is(new KeyDesk().join(0, a, 1, 1), -2);
    }
  }

  @Edge(promise = 6, sentence = "LETTERS are 1 to 60. .. UNKNOWN; OUTSIDE; FULL.")
  static void joinOfSecondLetterBeyondIsOutside() {
    for (int b : Desk.beyond(1, 60)) {
      Due.is(new KeyDesk().join(0, 1, b, 1), -2);
    }
  }

  @Edge(promise = 6, sentence = "LETTERS are 1 to 60. .. UNKNOWN; OUTSIDE; FULL.")
  static void joinOfThirdLetterBeyondIsOutside() {
    for (int c : Desk.beyond(1, 60)) {
      Due.is(new KeyDesk().join(0, 1, 1, c), -2);
    }
  }

  @Edge(promise = 6, sentence = "JOINS, 12 at most each .. A JOIN: how many.")
  static void join12IsTheLastOfATongue() {
    KeyDesk x = new KeyDesk();
    for (int n = 1; n <= 12; n++) {
      Due.is(x.join(2, n, n, n), n);
    }
    Due.is(x.told(22), 12);
  }

  @Edge(promise = 6, sentence = "JOINS, 12 at most each .. UNKNOWN; OUTSIDE; FULL.")
  static void join13IsFull() {
    KeyDesk x = new KeyDesk();
    Desk.fillJoins(x, 2);
    Due.is(x.join(2, 1, 1, 1), -4);
    Due.is(x.told(22), 12);
  }

  @Edge(promise = 6, sentence = "JOINS, 12 at most each")
  static void tongueFullOfJoinsLeavesRoomInOthers() {
    KeyDesk x = new KeyDesk();
    Desk.fillJoins(x, 2);
    Due.is(x.join(0, 1, 1, 1), 1);
    Due.is(x.join(1, 1, 1, 1), 1);
  }

  @Edge(promise = 6, sentence = "the first of these that fits")
  static void joinUnknownGoesAheadOfOutside() {
    Due.is(new KeyDesk().join(3, 0, 0, 0), -1);
    Due.is(new KeyDesk().join(-1, 61, 1, 1), -1);
  }

  @Edge(promise = 6, sentence = "the first of these that fits")
  static void joinOutsideGoesAheadOfFull() {
    KeyDesk x = new KeyDesk();
    Desk.fillJoins(x, 0);
    Due.is(x.join(0, 0, 1, 1), -2);
    Due.is(x.join(0, 1, 61, 1), -2);
    Due.is(x.join(0, 1, 1, 0), -2);
  }

  @Edge(promise = 6, sentence = "They change nothing.")
  static void refusedJoinChangesNothing() {
    Twins.refused(-1, x -> x.join(3, 5, 6, 10));
    Twins.refused(-2, x -> x.join(0, 0, 6, 10));
    Twins.refused(-2, x -> x.join(0, 5, 61, 10));
    Twins.refused(-2, x -> x.join(0, 5, 6, 61));
    Twins.refused(-4, x -> {
      for (int n = x.told(20); n < 11; n++) {
        x.join(0, 50, 50, 50);
      }
      x.join(0, 51, 51, 52);
      Desk.rule(x, 0, Desk.row(4), 51, 51);
      x.strike(4, 4);
    }, x -> x.join(0, 9, 7, 10));
  }

  // ---- Promise 7: own

  @Edge(promise = 7, sentence = "A LETTER is one of THE LETTERS of a TONGUE, or not: whether it was (1, 0).")
  static void ownTellsWhatWas() {
    KeyDesk x = new KeyDesk();
    Due.is(x.own(0, 7, false), 0);
    Due.is(x.own(0, 7, true), 0);
    Due.is(x.own(0, 7, true), 1);
    Due.is(x.own(0, 7, false), 1);
    Due.is(x.own(0, 7, false), 0);
  }

  @Edge(promise = 7, sentence = "LETTERS are 1 to 60.")
  static void letters1And60CanBeOwn() {
    KeyDesk x = new KeyDesk();
    Due.is(x.own(2, 1, true), 0);
    Due.is(x.own(2, 60, true), 0);
    Due.is(x.own(2, 1, true), 1);
    Due.is(x.own(2, 60, true), 1);
    Due.is(x.own(2, 2, true), 0);
    Due.is(x.own(2, 59, true), 0);
  }

  @Edge(promise = 7, sentence = "LETTERS are 1 to 60. .. UNKNOWN; OUTSIDE.")
  static void ownLetterBelow1IsOutside() {
    for (int l : Desk.below(1)) {
      Due.is(new KeyDesk().own(0, l, true), -2);
      Due.is(new KeyDesk().own(0, l, false), -2);
    }
  }

  @Edge(promise = 7, sentence = "LETTERS are 1 to 60. .. UNKNOWN; OUTSIDE.")
  static void ownLetterAbove60IsOutside() {
    for (int l : Desk.above(60)) {
      Due.is(new KeyDesk().own(0, l, true), -2);
      Due.is(new KeyDesk().own(0, l, false), -2);
    }
  }

  @Edge(promise = 7, sentence = "TONGUES 0 to 2 .. UNKNOWN; OUTSIDE.")
  static void ownOfNoTongueIsUnknown() {
    for (int t : Desk.beyond(0, 2)) {
      Due.is(new KeyDesk().own(t, 1, true), -1);
    }
  }

  @Edge(promise = 7, sentence = "one of THE LETTERS of a TONGUE")
  static void ownLetterIsOfOneTongue() {
    KeyDesk x = new KeyDesk();
    x.own(0, 7, true);
    Due.is(x.own(1, 7, false), 0);
    Due.is(x.own(2, 7, false), 0);
    Due.is(x.own(0, 7, false), 1);
  }

  @Edge(promise = 7, sentence = "the first of these that fits")
  static void ownUnknownGoesAheadOfOutside() {
    Due.is(new KeyDesk().own(3, 0, true), -1);
    Due.is(new KeyDesk().own(-1, 61, true), -1);
  }

  @Edge(promise = 7, sentence = "They change nothing.")
  static void refusedOwnChangesNothing() {
    Twins.refused(-1, x -> x.own(3, 6, true));
    Twins.refused(-1, x -> x.own(-1, 5, false));
    Twins.refused(-2, x -> x.own(0, 61, true));
    Twins.refused(-2, x -> x.own(0, 0, true));
  }

  // ---- Promise 8: quarrel

  @Edge(promise = 8, sentence = "QUARRELS: how many (i = -1), the i-th by RULES")
  static void quarrelsOfNoRulesAreNone() {
    for (int t = 0; t <= 2; t++) {
      Due.is(new KeyDesk().quarrel(t, -1), 0);
      Due.is(new KeyDesk().quarrel(t, 0), -6);
    }
  }

  @Edge(promise = 8, sentence = "100 times the first, and the second; NONE")
  static void quarrelBehindTheLastIsNone() {
    KeyDesk x = new KeyDesk();
    Desk.rule(x, 0, Desk.row(1), 1);
    Desk.rule(x, 0, Desk.row(1), 2);
    Due.is(x.quarrel(0, -1), 1);
    Due.is(x.quarrel(0, 0), 1);
    for (int i : Desk.above(0)) {
      Due.is(x.quarrel(0, i), -6);
    }
  }

  @Edge(promise = 8, sentence = "NONE (i below -1, too).")
  static void quarrelBelowMinus1IsNone() {
    KeyDesk x = new KeyDesk();
    Desk.rule(x, 0, Desk.row(1), 1);
    Desk.rule(x, 0, Desk.row(1), 2);
    for (int i : Desk.below(-1)) {
      Due.is(x.quarrel(0, i), -6);
    }
  }

  @Edge(promise = 8, sentence = "the i-th by RULES: 100 times the first, and the second")
  static void quarrelsOfAFullTongueAre276() {
    KeyDesk x = new KeyDesk();
    for (int n = 0; n < 24; n++) {
      Desk.rule(x, 2, Desk.row(4, 4, 4, 4), 1 + n);
    }
    Due.is(x.quarrel(2, -1), 276);
    Due.is(x.quarrel(2, 0), 1);
    Due.is(x.quarrel(2, 22), 23);
    Due.is(x.quarrel(2, 23), 102);
    Due.is(x.quarrel(2, 275), 2223);
    Due.is(x.quarrel(2, 276), -6);
  }

  @Edge(promise = 8, sentence = "QUARRELS: two RULES with the same KEYS, and other LETTERS.")
  static void likeRulesDoNotQuarrel() {
    KeyDesk x = new KeyDesk();
    Desk.rule(x, 0, Desk.row(1, 2), 1, 2);
    Desk.rule(x, 0, Desk.row(1, 2), 1, 2);
    Due.is(x.quarrel(0, -1), 0);
    Due.is(x.quarrel(0, 0), -6);
  }

  @Edge(promise = 8, sentence = "QUARRELS: two RULES with the same KEYS, and other LETTERS.")
  static void rulesQuarrelOverMoreLettersAndTheirOrder() {
    KeyDesk x = new KeyDesk();
    Desk.rule(x, 0, Desk.row(1, 2), 1, 2);
    Desk.rule(x, 0, Desk.row(1, 2), 1);
    Desk.rule(x, 0, Desk.row(1, 2), 2, 1);
    Desk.rule(x, 0, Desk.row(1, 2), 1, 2, 3);
    Due.is(x.quarrel(0, -1), 6);
    Due.is(x.quarrel(0, 0), 1);
    Due.is(x.quarrel(0, 5), 203);
  }

  @Edge(promise = 8, sentence = "QUARRELS: two RULES with the same KEYS, and other LETTERS.")
  static void rulesOfOtherKeysDoNotQuarrel() {
    KeyDesk x = new KeyDesk();
    Desk.rule(x, 0, Desk.row(1, 2), 1);
    Desk.rule(x, 0, Desk.row(1), 2);
    Desk.rule(x, 0, Desk.row(2, 1), 3);
    Desk.rule(x, 0, Desk.row(1, 2, 1), 4);
    Desk.rule(x, 1, Desk.row(1, 2), 5);
    Due.is(x.quarrel(0, -1), 0);
  }

  @Edge(promise = 8, sentence = "TONGUES 0 to 2 .. UNKNOWN.")
  static void quarrelOfNoTongueIsUnknown() {
    for (int t : Desk.beyond(0, 2)) {
      Due.is(new KeyDesk().quarrel(t, -1), -1);
      Due.is(new KeyDesk().quarrel(t, 0), -1);
    }
  }

  @Edge(promise = 8, sentence = "UNKNOWN. .. NONE (i below -1, too)")
  static void quarrelUnknownGoesAheadOfNone() {
    Due.is(new KeyDesk().quarrel(3, -2), -1);
    Due.is(new KeyDesk().quarrel(-1, 99), -1);
  }

  // ---- Promise 9: idle

  @Edge(promise = 9, sentence = "RULES that are IDLE, as bits (what = 0), KEYS that are in no RULE (1).")
  static void withoutRulesNoneIsIdleAndAllKeysAreInNone() {
    for (int t = 0; t <= 2; t++) {
      Due.is(new KeyDesk().idle(t, 0), 0);
      Due.is(new KeyDesk().idle(t, 1), 4095);
    }
  }

  @Edge(promise = 9, sentence = "IDLE: a RULE with the KEYS of one ahead of it.")
  static void firstOfLikeRulesIsNotIdle() {
    KeyDesk x = new KeyDesk();
    Desk.rule(x, 0, Desk.row(1, 2), 1);
    Due.is(x.idle(0, 0), 0);
    Desk.rule(x, 0, Desk.row(1, 2), 2);
    Due.is(x.idle(0, 0), 2);
    Desk.rule(x, 0, Desk.row(1, 2), 1);
    Due.is(x.idle(0, 0), 6);
  }

  @Edge(promise = 9, sentence = "IDLE: a RULE with the KEYS of one ahead of it.")
  static void rulesThatOnlyBeginAlikeAreNotIdle() {
    KeyDesk x = new KeyDesk();
    Desk.rule(x, 0, Desk.row(1, 2), 1);
    Desk.rule(x, 0, Desk.row(1), 1);
    Desk.rule(x, 0, Desk.row(1, 2, 3), 1);
    Desk.rule(x, 0, Desk.row(2, 1), 1);
    Desk.rule(x, 1, Desk.row(1, 2), 1);
    Due.is(x.idle(0, 0), 0);
    Due.is(x.idle(1, 0), 0);
  }

  @Edge(promise = 9, sentence = "RULES that are IDLE, as bits (what = 0)")
  static void allRulesButTheFirstAreIdle() {
    KeyDesk x = new KeyDesk();
    for (int n = 0; n < 24; n++) {
      Desk.rule(x, 0, Desk.row(5), 1);
    }
    Due.is(x.idle(0, 0), (1 << 24) - 2);
  }

  @Edge(promise = 9, sentence = "KEYS that are in no RULE (1)")
  static void keys0And11AreBits0And11() {
    KeyDesk x = new KeyDesk();
    Desk.rule(x, 0, Desk.row(0), 1);
    Due.is(x.idle(0, 1), 4095 - 1);
    Desk.rule(x, 0, Desk.row(1, 2, 3, 11), 1);
    Due.is(x.idle(0, 1), 4095 - 1 - 2 - 4 - 8 - 2048);
  }

  @Edge(promise = 9, sentence = "KEYS that are in no RULE (1)")
  static void allKeysAreInRules() {
    KeyDesk x = new KeyDesk();
    Desk.rule(x, 0, Desk.row(0, 1, 2, 3), 1);
    Desk.rule(x, 0, Desk.row(4, 5, 6, 7), 1);
    Desk.rule(x, 0, Desk.row(8, 9, 10, 11), 1);
    Due.is(x.idle(0, 1), 0);
    Due.is(x.idle(1, 1), 4095);
  }

  @Edge(promise = 9, sentence = "RULES that are IDLE, as bits (what = 0) .. UNKNOWN; OUTSIDE.")
  static void idleWhatBelow0IsOutside() {
    for (int what : Desk.below(0)) {
      Due.is(new KeyDesk().idle(0, what), -2);
    }
  }

  @Edge(promise = 9, sentence = "KEYS that are in no RULE (1). UNKNOWN; OUTSIDE.")
  static void idleWhatAbove1IsOutside() {
    for (int what : Desk.above(1)) {
      Due.is(new KeyDesk().idle(0, what), -2);
    }
  }

  @Edge(promise = 9, sentence = "TONGUES 0 to 2 .. UNKNOWN; OUTSIDE.")
  static void idleOfNoTongueIsUnknown() {
    for (int t : Desk.beyond(0, 2)) {
      Due.is(new KeyDesk().idle(t, 0), -1);
      Due.is(new KeyDesk().idle(t, 1), -1);
    }
  }

  @Edge(promise = 9, sentence = "the first of these that fits")
  static void idleUnknownGoesAheadOfOutside() {
    Due.is(new KeyDesk().idle(3, 2), -1);
    Due.is(new KeyDesk().idle(-1, -1), -1);
  }

  // ---- Promise 10: missing

  @Edge(promise = 10, sentence = "THE LETTERS of a TONGUE that are not MADE: how many (i = -1), the i-th; NONE")
  static void withoutLettersNoneIsMissing() {
    for (int t = 0; t <= 2; t++) {
      Due.is(new KeyDesk().missing(t, -1), 0);
      Due.is(new KeyDesk().missing(t, 0), -6);
    }
  }

  @Edge(promise = 10, sentence = "THE LETTERS of a TONGUE that are not MADE: how many (i = -1), the i-th; NONE")
  static void all60LettersAreMissing() {
    KeyDesk x = new KeyDesk();
    for (int l = 60; l >= 1; l--) {
      x.own(1, l, true);
    }
    Due.is(x.missing(1, -1), 60);
    for (int i = 0; i < 60; i++) {
      Due.is(x.missing(1, i), i + 1);
    }
    Due.is(x.missing(1, 60), -6);
  }

  @Edge(promise = 10, sentence = "that are not MADE")
  static void noneIsMissingWhereAllAreMade() {
    KeyDesk x = new KeyDesk();
    x.own(0, 1, true);
    x.own(0, 60, true);
    Desk.rule(x, 0, Desk.row(1), 1, 2, 60);
    Due.is(x.missing(0, -1), 0);
    Due.is(x.missing(0, 0), -6);
  }

  @Edge(promise = 10, sentence = "how many (i = -1), the i-th; NONE")
  static void missingBehindTheLastIsNone() {
    KeyDesk x = new KeyDesk();
    x.own(0, 60, true);
    Due.is(x.missing(0, 0), 60);
    for (int i : Desk.above(0)) {
      Due.is(x.missing(0, i), -6);
    }
  }

  @Edge(promise = 10, sentence = "NONE (i below -1, too).")
  static void missingBelowMinus1IsNone() {
    KeyDesk x = new KeyDesk();
    x.own(0, 60, true);
    for (int i : Desk.below(-1)) {
      Due.is(x.missing(0, i), -6);
    }
  }

  @Edge(promise = 10, sentence = "MADE: LETTERS of RULES that are not IDLE")
  static void lettersOfIdleRulesAreNotMade() {
    KeyDesk x = new KeyDesk();
    x.own(0, 3, true);
    x.own(0, 4, true);
    Desk.rule(x, 0, Desk.row(1), 3);
    Desk.rule(x, 0, Desk.row(1), 4);
    Due.is(x.missing(0, -1), 1);
    Due.is(x.missing(0, 0), 4);
    Desk.rule(x, 0, Desk.row(2), 4);
    Due.is(x.missing(0, -1), 0);
  }

  @Edge(promise = 10, sentence = "c of JOINS both letters of which are MADE")
  static void joinOfWhichOneLetterIsMadeMakesNothing() {
    KeyDesk x = new KeyDesk();
    x.own(0, 9, true);
    Desk.rule(x, 0, Desk.row(1), 1);
    x.join(0, 1, 2, 9);
    Due.is(x.missing(0, -1), 1);
    x.join(0, 2, 1, 9);
    Due.is(x.missing(0, -1), 1);
    Desk.rule(x, 0, Desk.row(2), 2);
    Due.is(x.missing(0, -1), 0);
  }

  @Edge(promise = 10, sentence = "c of JOINS both letters of which are MADE")
  static void chainOf12JoinsIsMadeInAnyOrder() {
    KeyDesk x = new KeyDesk();
    Desk.rule(x, 0, Desk.row(1), 1);
    x.own(0, 13, true);
    // 1 and 1 make 2, 2 and 1 make 3, .. 12 and 1 make 13: the last is told first.
    for (int n = 12; n >= 2; n--) {
      x.join(0, n, 1, n + 1);
    }
    Due.is(x.missing(0, -1), 1);
    x.join(0, 1, 1, 2);
    Due.is(x.missing(0, -1), 0);
  }

  @Edge(promise = 10, sentence = "c of JOINS both letters of which are MADE")
  static void joinsThatNeedOneAnotherMakeNothing() {
    KeyDesk x = new KeyDesk();
    x.own(0, 2, true);
    x.own(0, 3, true);
    x.join(0, 2, 2, 3);
    x.join(0, 3, 3, 2);
    x.join(0, 2, 3, 2);
    Due.is(x.missing(0, -1), 2);
  }

  @Edge(promise = 10, sentence = "TONGUES 0 to 2 .. UNKNOWN.")
  static void missingOfNoTongueIsUnknown() {
    for (int t : Desk.beyond(0, 2)) {
      Due.is(new KeyDesk().missing(t, -1), -1);
      Due.is(new KeyDesk().missing(t, 0), -1);
    }
  }

  @Edge(promise = 10, sentence = "UNKNOWN. .. NONE (i below -1, too)")
  static void missingUnknownGoesAheadOfNone() {
    Due.is(new KeyDesk().missing(3, -2), -1);
    Due.is(new KeyDesk().missing(-1, 99), -1);
  }

  // ---- Promise 11: speak

  @Edge(promise = 11, sentence = "TONGUE of THE LINE: which it was.")
  static void speakTellsWhichItWas() {
    KeyDesk x = new KeyDesk();
    Due.is(x.speak(2), 0);
    Due.is(x.speak(2), 2);
    Due.is(x.speak(0), 2);
    Due.is(x.told(3), 0);
  }

  @Edge(promise = 11, sentence = "TONGUES 0 to 2 .. UNKNOWN.")
  static void speakBelow0IsUnknown() {
    for (int t : Desk.below(0)) {
      Due.is(new KeyDesk().speak(t), -1);
    }
  }

  @Edge(promise = 11, sentence = "TONGUES 0 to 2 .. UNKNOWN.")
  static void speakAbove2IsUnknown() {
    for (int t : Desk.above(2)) {
      Due.is(new KeyDesk().speak(t), -1);
    }
  }

  @Edge(promise = 11, sentence = "They change nothing.")
  static void refusedSpeakChangesNothing() {
    Twins.refused(-1, x -> x.speak(2), x -> x.speak(3));
    Twins.refused(-1, x -> x.speak(1), x -> x.speak(-1));
  }

  // ---- Promise 12: strike

  @Edge(promise = 12, sentence = "A stroke at place i of THE LINE (from 0 to all; others move): how many there are.")
  static void strikeAtPlace0MovesAllOthers() {
    KeyDesk x = new KeyDesk();
    Due.is(x.strike(0, 3), 1);
    Due.is(x.strike(0, 2), 2);
    Due.is(x.strike(0, 1), 3);
    Desk.stands(x, -2, -3, -4);
  }

  @Edge(promise = 12, sentence = "A stroke at place i of THE LINE (from 0 to all; others move): how many there are.")
  static void strikeBehindTheLastMovesNone() {
    KeyDesk x = new KeyDesk();
    Desk.line(x, 1, 2);
    Due.is(x.strike(2, 3), 3);
    Desk.stands(x, -2, -3, -4);
  }

  @Edge(promise = 12, sentence = "(from 0 to all; others move)")
  static void strikeInBetweenMovesThoseBehind() {
    KeyDesk x = new KeyDesk();
    Desk.line(x, 1, 2);
    Due.is(x.strike(1, 9), 3);
    Desk.stands(x, -2, -10, -3);
  }

  @Edge(promise = 12, sentence = "(from 0 to all; others move) .. OUTSIDE; FULL.")
  static void strikeAtPlaceBelow0IsOutside() {
    for (int i : Desk.below(0)) {
      KeyDesk x = new KeyDesk();
      Due.is(x.strike(i, 1), -2);
      x.strike(0, 1);
      Due.is(x.strike(i, 1), -2);
    }
  }

  @Edge(promise = 12, sentence = "(from 0 to all; others move) .. OUTSIDE; FULL.")
  static void strikeAtPlaceBehindAllIsOutside() {
    for (int beyond : Desk.above(0)) {
      Due.is(new KeyDesk().strike(beyond, 1), -2);
    }
    KeyDesk x = new KeyDesk();
    Desk.line(x, 1, 2, 3);
    for (int beyond : Desk.above(3)) {
      Due.is(x.strike(beyond, 1), -2);
    }
  }

  @Edge(promise = 12, sentence = "KEYS 0 to 11")
  static void keys0And11CanBeStruck() {
    KeyDesk x = new KeyDesk();
    Due.is(x.strike(0, 0), 1);
    Due.is(x.strike(1, 11), 2);
    Desk.stands(x, -1, -12);
  }

  @Edge(promise = 12, sentence = "KEYS 0 to 11 .. OUTSIDE; FULL.")
  static void strikeOfNoKeyIsOutside() {
    for (int k : Desk.beyond(0, 11)) {
      Due.is(new KeyDesk().strike(0, k), -2);
    }
  }

  @Edge(promise = 12, sentence = "up to 40 strokes")
  static void lineTakes40Strokes() {
    KeyDesk x = new KeyDesk();
    for (int n = 1; n <= 40; n++) {
      Due.is(x.strike(n / 2, n % 12), n);
    }
    Due.is(x.told(4), 40);
  }

  @Edge(promise = 12, sentence = "up to 40 strokes .. OUTSIDE; FULL.")
  static void stroke41IsFull() {
    KeyDesk x = new KeyDesk();
    Desk.line(x, Desk.times(40, 1));
    Due.is(x.strike(0, 1), -4);
    Due.is(x.strike(20, 1), -4);
    Due.is(x.told(4), 40);
  }

  @Edge(promise = 12, sentence = "(from 0 to all; others move) .. FULL.")
  static void strikeBehindTheLastOf40IsFull() {
    KeyDesk x = new KeyDesk();
    Desk.line(x, Desk.times(40, 1));
    Due.is(x.strike(40, 1), -4);
  }

  @Edge(promise = 12, sentence = "the first of these that fits")
  static void strikeOutsideGoesAheadOfFull() {
    KeyDesk x = new KeyDesk();
    Desk.line(x, Desk.times(40, 1));
    Due.is(x.strike(41, 1), -2);
    Due.is(x.strike(-1, 1), -2);
    Due.is(x.strike(0, 12), -2);
    Due.is(x.strike(40, -1), -2);
  }

  @Edge(promise = 12, sentence = "They change nothing.")
  static void refusedStrikeChangesNothing() {
    Twins.refused(-2, x -> x.strike(-1, 1));
    Twins.refused(-2, x -> x.strike(5, 1));
    Twins.refused(-2, x -> x.strike(0, 12));
    Twins.refused(-2, x -> x.strike(0, -1));
    Twins.refused(-4, x -> Desk.line(x, Desk.times(40, 1)), x -> x.strike(0, 2));
  }

  // ---- Promise 13: change

  @Edge(promise = 13, sentence = "The stroke at place i becomes another one: which it was.")
  static void firstAndLastStrokesChange() {
    KeyDesk x = new KeyDesk();
    Desk.line(x, 5, 6, 7);
    Due.is(x.change(0, 0), 5);
    Due.is(x.change(2, 11), 7);
    Desk.stands(x, -1, -7, -12);
    Due.is(x.change(2, 11), 11);
    Due.is(x.told(4), 3);
  }

  @Edge(promise = 13, sentence = "The stroke at place i becomes another one: which it was. OUTSIDE.")
  static void emptyLineHasNothingToChange() {
    Due.is(new KeyDesk().change(0, 1), -2);
    Due.is(new KeyDesk().change(-1, 1), -2);
  }

  @Edge(promise = 13, sentence = "The stroke at place i becomes another one: which it was. OUTSIDE.")
  static void changeAtPlaceBelow0IsOutside() {
    KeyDesk x = new KeyDesk();
    Desk.line(x, 1, 2);
    for (int i : Desk.below(0)) {
      Due.is(x.change(i, 1), -2);
    }
  }

  @Edge(promise = 13, sentence = "The stroke at place i becomes another one: which it was. OUTSIDE.")
  static void changeBehindTheLastIsOutside() {
    KeyDesk x = new KeyDesk();
    Desk.line(x, 1, 2);
    for (int i : Desk.above(1)) {
      Due.is(x.change(i, 1), -2);
    }
  }

  @Edge(promise = 13, sentence = "KEYS 0 to 11 .. OUTSIDE.")
  static void changeToNoKeyIsOutside() {
    KeyDesk x = new KeyDesk();
    Desk.line(x, 1, 2);
    for (int k : Desk.beyond(0, 11)) {
      Due.is(x.change(0, k), -2);
    }
  }

  @Edge(promise = 13, sentence = "up to 40 strokes .. The stroke at place i becomes another one")
  static void fullLineCanBeChangedUpToPlace39() {
    KeyDesk x = new KeyDesk();
    Desk.line(x, Desk.times(40, 1));
    Due.is(x.change(39, 2), 1);
    Due.is(x.change(39, 3), 2);
    Due.is(x.change(40, 2), -2);
    Due.is(x.told(4), 40);
  }

  @Edge(promise = 13, sentence = "They change nothing.")
  static void refusedChangeChangesNothing() {
    Twins.refused(-2, x -> x.change(-1, 1));
    Twins.refused(-2, x -> x.change(4, 1));
    Twins.refused(-2, x -> x.change(0, 12));
    Twins.refused(-2, x -> x.change(0, -1));
  }

  // ---- Promise 14: back

  @Edge(promise = 14, sentence = "The stroke at place i goes: which it was.")
  static void firstStrokeGoesAndOthersMove() {
    KeyDesk x = new KeyDesk();
    Desk.line(x, 5, 6, 7);
    Due.is(x.back(0), 5);
    Desk.stands(x, -7, -8);
  }

  @Edge(promise = 14, sentence = "The stroke at place i goes: which it was.")
  static void lastStrokeGoes() {
    KeyDesk x = new KeyDesk();
    Desk.line(x, 5, 6, 7);
    Due.is(x.back(2), 7);
    Desk.stands(x, -6, -7);
  }

  @Edge(promise = 14, sentence = "The stroke at place i goes: which it was. OUTSIDE.")
  static void onlyStrokeLeavesTheLineEmpty() {
    KeyDesk x = new KeyDesk();
    Desk.line(x, 11);
    Due.is(x.back(0), 11);
    Due.is(x.told(4), 0);
    Due.is(x.back(0), -2);
  }

  @Edge(promise = 14, sentence = "The stroke at place i goes: which it was. OUTSIDE.")
  static void backAtPlaceBelow0IsOutside() {
    KeyDesk x = new KeyDesk();
    Desk.line(x, 1, 2);
    for (int i : Desk.below(0)) {
      Due.is(x.back(i), -2);
    }
  }

  @Edge(promise = 14, sentence = "The stroke at place i goes: which it was. OUTSIDE.")
  static void backBehindTheLastIsOutside() {
    KeyDesk x = new KeyDesk();
    Desk.line(x, 1, 2);
    for (int i : Desk.above(1)) {
      Due.is(x.back(i), -2);
    }
  }

  @Edge(promise = 14, sentence = "up to 40 strokes .. The stroke at place i goes")
  static void fullLineHasRoomAgainBehindBack() {
    KeyDesk x = new KeyDesk();
    Desk.line(x, Desk.times(40, 1));
    Due.is(x.back(39), 1);
    Due.is(x.told(4), 39);
    Due.is(x.strike(0, 2), 40);
    Due.is(x.strike(0, 2), -4);
    Due.is(x.back(0), 2);
  }

  @Edge(promise = 14, sentence = "They change nothing.")
  static void refusedBackChangesNothing() {
    Twins.refused(-2, x -> x.back(-1));
    Twins.refused(-2, x -> x.back(4));
    Twins.refused(-2, x -> Desk.line(x), x -> x.back(0));
  }

  // ---- Promise 15: stands

  @Edge(promise = 15, sentence = "WHAT STANDS of THE LINE: how many signs (i = -1), the i-th; NONE.")
  static void onAnEmptyLineNothingStands() {
    Due.is(new KeyDesk().stands(-1), 0);
    Due.is(new KeyDesk().stands(0), -1006);
  }

  @Edge(promise = 15, sentence = "OUTSIDE: i below -1 (LOST less 2; NONE: LOST less 6).")
  static void standsBelowMinus1IsLostLess2() {
    KeyDesk x = new KeyDesk();
    for (int i : Desk.below(-1)) {
      Due.is(x.stands(i), -1002);
    }
    Desk.line(x, 1);
    for (int i : Desk.below(-1)) {
      Due.is(x.stands(i), -1002);
    }
  }

  @Edge(promise = 15, sentence = "OUTSIDE: i below -1 (LOST less 2; NONE: LOST less 6).")
  static void standsBehindTheLastSignIsLostLess6() {
    KeyDesk x = new KeyDesk();
    Desk.line(x, 1, 2);
    Due.is(x.stands(1), -3);
    for (int i : Desk.above(1)) {
      Due.is(x.stands(i), -1006);
    }
  }

  @Edge(promise = 15, sentence = "the KEY stands RAW (told as - 1 less the KEY)")
  static void rawKeys0And11AreMinus1AndMinus12() {
    KeyDesk x = new KeyDesk();
    Desk.line(x, 0, 11);
    Desk.stands(x, -1, -12);
  }

  @Edge(promise = 15, sentence = "up to 40 strokes .. the KEY stands RAW")
  static void fullLineOfRawKeysHas40Signs() {
    KeyDesk x = new KeyDesk();
    Desk.line(x, Desk.times(40, 7));
    Due.is(x.stands(-1), 40);
    Due.is(x.stands(39), -8);
    Due.is(x.stands(40), -1006);
  }

  @Edge(promise = 15, sentence = "up to 40 strokes .. makes 1 to 3 LETTERS")
  static void fullLineOfThreeLettersEachHas120Signs() {
    KeyDesk x = new KeyDesk();
    Desk.rule(x, 0, Desk.row(9), 1, 2, 60);
    Desk.line(x, Desk.times(40, 9));
    Due.is(x.stands(-1), 120);
    Due.is(x.stands(0), 1);
    Due.is(x.stands(118), 2);
    Due.is(x.stands(119), 60);
    Due.is(x.stands(120), -1006);
  }

  @Edge(promise = 15, sentence = "the RULE with the most KEYS that are just the next ones (of several the first told)")
  static void ruleOfTheMostKeysGivesItsLetters() {
    KeyDesk x = new KeyDesk();
    Desk.rule(x, 0, Desk.row(1, 2), 20);
    Desk.rule(x, 0, Desk.row(1, 2, 3, 4), 40);
    Desk.rule(x, 0, Desk.row(1), 10);
    Desk.rule(x, 0, Desk.row(1, 2, 3), 30);
    Desk.line(x, 1);
    Desk.stands(x, 10);
    x.strike(1, 2);
    Desk.stands(x, 20);
    x.strike(2, 3);
    Desk.stands(x, 30);
    x.strike(3, 4);
    Desk.stands(x, 40);
    x.strike(4, 1);
    Desk.stands(x, 40, 10);
  }

  @Edge(promise = 15, sentence = "(of several the first told)")
  static void firstToldOfLikeRulesGivesItsLetters() {
    KeyDesk x = new KeyDesk();
    Desk.rule(x, 0, Desk.row(1, 2), 20);
    Desk.rule(x, 0, Desk.row(1, 2), 21);
    Desk.line(x, 1, 2);
    Desk.stands(x, 20);
  }

  @Edge(promise = 15, sentence = "KEYS that are just the next ones .. if there is none, the KEY stands RAW")
  static void ruleThatReachesBeyondTheLineGivesNothing() {
    KeyDesk x = new KeyDesk();
    Desk.rule(x, 0, Desk.row(1, 1, 1, 1), 40);
    Desk.line(x, 1, 1, 1);
    Desk.stands(x, -2, -2, -2);
    Desk.line(x, Desk.times(39, 1));
    Due.is(x.stands(-1), 12);
    Due.is(x.stands(8), 40);
    Due.is(x.stands(9), -2);
  }

  @Edge(promise = 15, sentence = "from the first one on: the RULE with the most KEYS that are just the next ones")
  static void longerRuleThatBeginsFurtherOnComesTooLate() {
    KeyDesk x = new KeyDesk();
    Desk.rule(x, 0, Desk.row(2, 3, 4), 30);
    Desk.rule(x, 0, Desk.row(1, 2), 20);
    Desk.line(x, 1, 2, 3, 4);
    Desk.stands(x, 20, -4, -5);
    x.back(0);
    Desk.stands(x, 30);
  }

  @Edge(promise = 15, sentence = "KEYS that are just the next ones")
  static void ruleWithAnotherLastKeyGivesNothing() {
    KeyDesk x = new KeyDesk();
    Desk.rule(x, 0, Desk.row(1, 2, 3, 4), 40);
    Desk.line(x, 1, 2, 3, 5);
    Desk.stands(x, -2, -3, -4, -6);
  }

  @Edge(promise = 15, sentence = "RULES, 24 at most each .. gives its LETTERS")
  static void rule23GivesItsLetters() {
    KeyDesk x = new KeyDesk();
    for (int n = 0; n < 23; n++) {
      Desk.rule(x, 0, Desk.row(0), 1);
    }
    Desk.rule(x, 0, Desk.row(5), 50);
    Desk.line(x, 5);
    Desk.stands(x, 50);
  }

  @Edge(promise = 15, sentence = "as a LETTER comes behind a LETTER, and a JOIN has both, c is there instead of both")
  static void joinWithNothingAheadJoinsNothing() {
    KeyDesk x = joining();
    x.join(0, 1, 2, 9);
    Desk.line(x, 2, 1);
    Desk.stands(x, 2, 1);
    Desk.line(x, 1);
    Desk.stands(x, 1);
    Desk.line(x, 1, 2);
    Desk.stands(x, 9);
  }

  /** KEYS 1 to 5 make the LETTERS 1 to 5. */
  private static KeyDesk joining() {
    KeyDesk x = new KeyDesk();
    for (int k = 1; k <= 5; k++) {
      Desk.rule(x, 0, Desk.row(k), k);
    }
    return x;
  }

  @Edge(promise = 15, sentence = "(the first such JOIN told; then again with what is ahead, and so on)")
  static void firstToldOfLikeJoinsJoins() {
    KeyDesk x = joining();
    x.join(0, 1, 2, 9);
    x.join(0, 1, 2, 10);
    Desk.line(x, 1, 2);
    Desk.stands(x, 9);
  }

  @Edge(promise = 15, sentence = "(the first such JOIN told; then again with what is ahead, and so on)")
  static void whatIsJoinedJoinsWithWhatIsAheadUpToTheFirst() {
    KeyDesk x = joining();
    x.join(0, 4, 5, 11);
    x.join(0, 3, 11, 12);
    x.join(0, 2, 12, 13);
    x.join(0, 1, 13, 14);
    Desk.line(x, 1, 2, 3, 4, 5);
    Desk.stands(x, 14);
    x.back(0);
    Desk.stands(x, 13);
  }

  @Edge(promise = 15, sentence = "Signs come one by one .. a JOIN has both, c is there instead of both")
  static void fullLineOf120LettersJoinsToOne() {
    KeyDesk x = new KeyDesk();
    Desk.rule(x, 0, Desk.row(9), 60, 60, 60);
    x.join(0, 60, 60, 60);
    Desk.line(x, Desk.times(40, 9));
    Desk.stands(x, 60);
    Due.is(x.stands(1), -1006);
  }

  @Edge(promise = 15, sentence = "JOINS, 12 at most each .. a JOIN has both")
  static void join12Joins() {
    KeyDesk x = joining();
    for (int n = 1; n < 12; n++) {
      x.join(0, 59, 59, 1);
    }
    x.join(0, 1, 2, 60);
    Desk.line(x, 1, 2);
    Desk.stands(x, 60);
  }

  @Edge(promise = 15, sentence = "RAW ones join nothing.")
  static void rawKeyBetweenLettersKeepsThemApart() {
    KeyDesk x = joining();
    x.join(0, 1, 2, 9);
    Desk.line(x, 1, 0, 2);
    Desk.stands(x, 1, -1, 2);
    Desk.line(x, 0, 1, 2, 0);
    Desk.stands(x, -1, 9, -1);
  }

  // ---- Promise 16: piece

  @Edge(promise = 16, sentence = "PIECES of THE LINE: how many (i = -1), the i-th")
  static void emptyLineHasNoPieces() {
    Due.is(new KeyDesk().piece(-1), 0);
    Due.is(new KeyDesk().piece(0), -6);
  }

  @Edge(promise = 16, sentence = "and where it begins; NONE.")
  static void pieceBehindTheLastIsNone() {
    KeyDesk x = new KeyDesk();
    Desk.line(x, 1, 2);
    Due.is(x.piece(1), 9901);
    for (int i : Desk.above(1)) {
      Due.is(x.piece(i), -6);
    }
  }

  @Edge(promise = 16, sentence = "how many (i = -1), the i-th .. and where it begins; NONE.")
  static void pieceBelowMinus1IsNone() {
    KeyDesk x = new KeyDesk();
    Desk.line(x, 1, 2);
    for (int i : Desk.below(-1)) {
      Due.is(x.piece(i), -6);
    }
  }

  @Edge(promise = 16, sentence = "100 times its RULE (RAW: 99), and where it begins")
  static void rule0AtPlace0Is0AndRule23Is23Hundred() {
    KeyDesk x = new KeyDesk();
    for (int n = 0; n < 23; n++) {
      Desk.rule(x, 0, Desk.row(0), 1);
    }
    Desk.rule(x, 0, Desk.row(5, 5, 5, 5), 50);
    Desk.line(x, Desk.times(40, 5));
    x.change(0, 0);
    // 0, then 5 5 5 5 nine times, then three RAW ones.
    Due.is(x.piece(-1), 13);
    Due.is(x.piece(0), 0);
    Due.is(x.piece(1), 2301);
    Due.is(x.piece(9), 2333);
    Due.is(x.piece(10), 9937);
    Due.is(x.piece(12), 9939);
    Due.is(x.piece(13), -6);
  }

  @Edge(promise = 16, sentence = "up to 40 strokes .. RAW: 99")
  static void fullLineOfRawKeysHas40Pieces() {
    KeyDesk x = new KeyDesk();
    Desk.line(x, Desk.times(40, 5));
    Due.is(x.piece(-1), 40);
    Due.is(x.piece(0), 9900);
    Due.is(x.piece(39), 9939);
    Due.is(x.piece(40), -6);
  }

  // ---- Promise 17: could

  @Edge(promise = 17, sentence = "of an empty LINE: the first KEYS of RULES")
  static void withoutRulesNothingCouldCome() {
    KeyDesk x = new KeyDesk();
    Due.is(x.could(), 0);
    Desk.line(x, 1);
    Due.is(x.could(), 0);
  }

  @Edge(promise = 17, sentence = "of an empty LINE: the first KEYS of RULES")
  static void onAnEmptyLineFirstKeysCouldCome() {
    KeyDesk x = new KeyDesk();
    Desk.rule(x, 0, Desk.row(0, 5), 1);
    Due.is(x.could(), 1);
    Desk.rule(x, 0, Desk.row(11, 6, 7, 8), 1);
    Due.is(x.could(), 1 + 2048);
    for (int k = 0; k < 12; k++) {
      Desk.rule(x, 0, Desk.row(k), 1);
    }
    Due.is(x.could(), 4095);
  }

  @Edge(promise = 17, sentence = "and that KEY behind them, are a RULE's KEYS or the first of them")
  static void keyThatEndsARuleCouldComeAndOneThatGoesOnToo() {
    KeyDesk x = new KeyDesk();
    Desk.rule(x, 0, Desk.row(1, 0), 1);
    Desk.rule(x, 0, Desk.row(1, 11, 2, 3), 1);
    Desk.rule(x, 0, Desk.row(1), 1);
    Desk.rule(x, 0, Desk.row(2, 5), 1);
    Desk.line(x, 1);
    Due.is(x.could(), 1 + 2048);
  }

  @Edge(promise = 17, sentence = "and that KEY behind them, are a RULE's KEYS or the first of them")
  static void behindAWholeRuleOf4KeysNothingCouldCome() {
    KeyDesk x = new KeyDesk();
    Desk.rule(x, 0, Desk.row(1, 1, 1, 1), 1);
    Desk.line(x, 1, 1, 1, 1);
    Due.is(x.could(), 0);
    // A RAW piece begins the RULE anew.
    x.strike(4, 1);
    Due.is(x.could(), 2);
  }

  @Edge(promise = 17, sentence = "the strokes of the last PIECE, and that KEY behind them")
  static void onlyTheLastPieceCounts() {
    KeyDesk x = new KeyDesk();
    Desk.rule(x, 0, Desk.row(1, 2, 3), 1);
    // 1 and 2 are RAW, one by one: 2 begins no RULE.
    Desk.line(x, 1, 2);
    Due.is(x.could(), 0);
    Desk.rule(x, 0, Desk.row(1, 2), 2);
    Due.is(x.could(), 8);
  }

  @Edge(promise = 17, sentence = "up to 40 strokes .. COULD, as bits of KEYS.")
  static void fullLineIsToldWhatCouldCome() {
    KeyDesk x = new KeyDesk();
    Desk.rule(x, 0, Desk.row(5, 6), 1);
    Desk.line(x, Desk.times(40, 5));
    Due.is(x.could(), 64);
  }

  @Edge(promise = 17, sentence = "RULES, 24 at most each .. COULD, as bits of KEYS.")
  static void keysOfRule23CouldCome() {
    KeyDesk x = new KeyDesk();
    for (int n = 0; n < 23; n++) {
      Desk.rule(x, 0, Desk.row(0, 1), 1);
    }
    Desk.rule(x, 0, Desk.row(5, 11), 1);
    Due.is(x.could(), 1 + 32);
    Desk.line(x, 5);
    Due.is(x.could(), 2048);
    Desk.line(x, 5, 11);
    Due.is(x.could(), 0);
  }

  @Edge(promise = 17, sentence = "THE LINE: up to 40 strokes, and its TONGUE")
  static void rulesOfOtherTonguesCouldNotCome() {
    KeyDesk x = new KeyDesk();
    Desk.rule(x, 0, Desk.row(5, 6), 1);
    x.speak(1);
    Due.is(x.could(), 0);
    Desk.line(x, 5);
    Due.is(x.could(), 0);
    x.speak(0);
    Due.is(x.could(), 64);
  }
}
