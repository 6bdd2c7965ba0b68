/** Edges of promises 30 to 37: HANDS learn, forget, guess and share. */
final class HandsEdges {
  private HandsEdges() {
  }

  // ---- Promise 30: learn

  @Edge(promise = 30, sentence = "HANDS 0 to 3 learn WORDS on DAYS .. how many learnings there are")
  static void hands0And3Learn() {
    KeyDesk x = Desk.withWords(2);
    Due.is(x.learn(0, 1, 5), 1);
    Due.is(x.learn(3, 0, 5), 2);
    Due.is(x.worth(0, 1, 5), 1000);
    Due.is(x.worth(3, 0, 5), 1000);
    Due.is(x.worth(0, 0, 5), 0);
    Due.is(x.told(7), 2);
  }

  @Edge(promise = 30, sentence = "HANDS 0 to 3 .. UNKNOWN; OUTSIDE; FULL; NO")
  static void learnOfHandBelow0IsUnknown() {
    for (int hand : Desk.below(0)) {
      Due.is(Desk.withWords(1).learn(hand, 0, 5), -1);
    }
  }

  @Edge(promise = 30, sentence = "HANDS 0 to 3 .. UNKNOWN; OUTSIDE; FULL; NO")
  static void learnOfHandAbove3IsUnknown() {
    for (int hand : Desk.above(3)) {
      Due.is(Desk.withWords(1).learn(hand, 0, 5), -1);
    }
  }

  @Edge(promise = 30, sentence = "there is no such .. WORD .. UNKNOWN; OUTSIDE; FULL; NO")
  static void learnOfNoWordIsUnknown() {
    Due.is(new KeyDesk().learn(0, 0, 5), -1);
    for (int word : Desk.beyond(0, 1)) {
      Due.is(Desk.withWords(2).learn(0, word, 5), -1);
    }
  }

  @Edge(promise = 30, sentence = "on DAYS (0 to 3000")
  static void days0And3000AreLearnedOn() {
    KeyDesk x = Desk.withWords(1);
    Due.is(x.learn(0, 0, 0), 1);
    Due.is(x.learn(0, 0, 3000), 2);
    Due.is(x.worth(0, 0, 0), 1000);
    Due.is(x.worth(0, 0, 3000), 1000);
  }

  @Edge(promise = 30, sentence = "on DAYS (0 to 3000 .. UNKNOWN; OUTSIDE; FULL; NO")
  static void learnOnDayBelow0IsOutside() {
    for (int day : Desk.below(0)) {
      Due.is(Desk.withWords(1).learn(0, 0, day), -2);
    }
  }

  @Edge(promise = 30, sentence = "on DAYS (0 to 3000 .. UNKNOWN; OUTSIDE; FULL; NO")
  static void learnOnDayAbove3000IsOutside() {
    for (int day : Desk.above(3000)) {
      Due.is(Desk.withWords(1).learn(0, 0, day), -2);
    }
  }

  @Edge(promise = 30, sentence = "60 learnings at most of all")
  static void learning60IsTheLastOfAllHands() {
    KeyDesk x = Desk.withWords(2);
    for (int n = 1; n <= 60; n++) {
      Due.is(x.learn(n % 4, n % 2, n), n);
    }
    Due.is(x.told(7), 60);
    // HAND 0 learned WORD 0 on the DAYS 4, 8, .. 60.
    Due.is(x.worth(0, 0, 60), worthOfEvery4Days());
  }

  /** 15 learnings, 4 DAYS apart, the last one of today. */
  private static int worthOfEvery4Days() {
    int sum = 0;
    int left = 1000;
    for (int days = 0; days <= 56; days++) {
      sum += days % 4 == 0 ? left : 0;
      left = left * 900 / 1000;
    }
    return sum;
  }

  @Edge(promise = 30, sentence = "60 learnings at most of all .. UNKNOWN; OUTSIDE; FULL; NO")
  static void learning61IsFullForEachHand() {
    KeyDesk x = Desk.withWords(1);
    Desk.fillLearnings(x, 1, 0, 5);
    for (int hand = 0; hand <= 3; hand++) {
      Due.is(x.learn(hand, 0, 6), -4);
    }
    Due.is(x.told(7), 60);
  }

  @Edge(promise = 30, sentence = "no DAY ahead of the latest one of that HAND .. NO: the DAY is ahead of its latest.")
  static void dayAheadOfTheLatestIsNo() {
    KeyDesk x = Desk.withWords(2);
    x.learn(0, 0, 3000);
    Due.is(x.learn(0, 0, 2999), -5);
    Due.is(x.learn(0, 1, 2999), -5);
    Due.is(x.learn(0, 1, 0), -5);
    Due.is(x.told(7), 1);
  }

  @Edge(promise = 30, sentence = "NO: the DAY is ahead of its latest.")
  static void sameDayIsNotAheadOfTheLatest() {
    KeyDesk x = Desk.withWords(2);
    Due.is(x.learn(0, 0, 7), 1);
    Due.is(x.learn(0, 1, 7), 2);
    Due.is(x.learn(0, 0, 7), 3);
    Due.is(x.learn(0, 0, 8), 4);
    Due.is(x.learn(0, 0, 7), -5);
  }

  @Edge(promise = 30, sentence = "no DAY ahead of the latest one of that HAND")
  static void latestDayOfAnotherHandBindsNot() {
    KeyDesk x = Desk.withWords(1);
    x.learn(0, 0, 3000);
    Due.is(x.learn(1, 0, 0), 2);
    Due.is(x.learn(2, 0, 2999), 3);
  }

  @Edge(promise = 30, sentence = "the first of these that fits")
  static void learnUnknownGoesFirst() {
    KeyDesk x = Desk.withWords(1);
    Due.is(x.learn(4, 0, -1), -1);
    Due.is(x.learn(0, 1, 3001), -1);
    x.learn(0, 0, 9);
    Due.is(x.learn(0, 1, 8), -1);
    Desk.fillLearnings(x, 0, 0, 9);
    Due.is(x.learn(4, 0, 9), -1);
    Due.is(x.learn(0, -1, 9), -1);
  }

  @Edge(promise = 30, sentence = "the first of these that fits")
  static void learnOutsideGoesAheadOfFullAndNo() {
    KeyDesk x = Desk.withWords(1);
    x.learn(0, 0, 9);
    Due.is(x.learn(0, 0, -1), -2);
    Desk.fillLearnings(x, 0, 0, 9);
    Due.is(x.learn(0, 0, 3001), -2);
    Due.is(x.learn(0, 0, -1), -2);
  }

  @Edge(promise = 30, sentence = "the first of these that fits")
  static void learnFullGoesAheadOfNo() {
    KeyDesk x = Desk.withWords(1);
    Desk.fillLearnings(x, 0, 0, 9);
    Due.is(x.learn(0, 0, 8), -4);
  }

  @Edge(promise = 30, sentence = "They change nothing.")
  static void refusedLearnChangesNothing() {
    Twins.refused(-1, x -> x.learn(4, 0, 8));
    Twins.refused(-1, x -> x.learn(0, 3, 8));
    Twins.refused(-2, x -> x.learn(0, 0, 3001));
    Twins.refused(-5, x -> x.learn(0, 0, 4));
    Twins.refused(-4, x -> Desk.fillLearnings(x, 2, 1, 8), x -> x.learn(0, 0, 8));
  }

  // ---- Promise 31: worth

  @Edge(promise = 31, sentence = "for each learning of it, of that DAY or ahead: 1000")
  static void learningOfThatDayIsWorth1000() {
    KeyDesk x = Desk.withWords(1);
    x.learn(0, 0, 5);
    Due.is(x.worth(0, 0, 5), 1000);
  }

  @Edge(promise = 31, sentence = "for each learning of it, of that DAY or ahead")
  static void learningOfALaterDayIsWorthNothing() {
    KeyDesk x = Desk.withWords(1);
    x.learn(0, 0, 5);
    Due.is(x.worth(0, 0, 4), 0);
    Due.is(x.worth(0, 0, 0), 0);
    x.learn(0, 0, 9);
    Due.is(x.worth(0, 0, 8), 729);
  }

  @Edge(promise = 31, sentence = "WORTH of a WORD for a HAND on a DAY")
  static void whatWasNotLearnedIsWorth0() {
    KeyDesk x = Desk.withWords(2);
    Due.is(x.worth(0, 0, 3000), 0);
    x.learn(0, 0, 5);
    Due.is(x.worth(0, 1, 5), 0);
    Due.is(x.worth(1, 0, 5), 0);
    Due.is(x.worth(3, 1, 5), 0);
  }

  @Edge(promise = 31, sentence = "becomes, DAY by DAY, itself times FADE (0 to 1000; 900 at first) by 1000, cut; together")
  static void itIsCutEachDayAndForEachLearning() {
    KeyDesk x = Desk.withWords(1);
    x.learn(0, 0, 0);
    int[] due = {1000, 900, 810, 729, 656, 590, 531, 477, 429, 386};
    for (int day = 0; day < due.length; day++) {
      Due.is(x.worth(0, 0, day), due[day]);
    }
    x.learn(0, 0, 0);
    Due.is(x.worth(0, 0, 4), 2 * 656);
    Due.is(x.worth(0, 0, 9), 2 * 386);
  }

  @Edge(promise = 31, sentence = "DAYS (0 to 3000 .. DAY by DAY")
  static void fadeFromDay0ToDay3000() {
    KeyDesk x = Desk.withWords(1);
    x.learn(0, 0, 0);
    // 9 becomes 8.1, cut, and so on down to 1, that becomes 0.9, cut.
    Due.is(x.worth(0, 0, 3000), 0);
    x.fade(1000);
    Due.is(x.worth(0, 0, 3000), 1000);
    x.fade(999);
    Due.is(x.worth(0, 0, 999), 1);
    Due.is(x.worth(0, 0, 1000), 0);
    Due.is(x.worth(0, 0, 3000), 0);
  }

  @Edge(promise = 31, sentence = "60 learnings at most of all .. together")
  static void sixtyLearningsOfADayAreWorth60000() {
    KeyDesk x = Desk.withWords(1);
    Desk.fillLearnings(x, 2, 0, 3000);
    Due.is(x.worth(2, 0, 3000), 60000);
    Due.is(x.worth(2, 0, 2999), 0);
  }

  @Edge(promise = 31, sentence = "HANDS 0 to 3 .. UNKNOWN; OUTSIDE: the DAY.")
  static void worthForNoHandIsUnknown() {
    for (int hand : Desk.beyond(0, 3)) {
      Due.is(Desk.withWords(1).worth(hand, 0, 0), -1);
    }
  }

  @Edge(promise = 31, sentence = "there is no such .. WORD .. UNKNOWN; OUTSIDE: the DAY.")
  static void worthOfNoWordIsUnknown() {
    Due.is(new KeyDesk().worth(0, 0, 0), -1);
    for (int word : Desk.beyond(0, 1)) {
      Due.is(Desk.withWords(2).worth(0, word, 0), -1);
    }
  }

  @Edge(promise = 31, sentence = "DAYS (0 to 3000 .. UNKNOWN; OUTSIDE: the DAY.")
  static void worthOnADayBeyondIsOutside() {
    for (int day : Desk.below(0)) {
      Due.is(Desk.withWords(1).worth(0, 0, day), -2);
    }
    for (int day : Desk.above(3000)) {
      Due.is(Desk.withWords(1).worth(0, 0, day), -2);
    }
  }

  @Edge(promise = 31, sentence = "the first of these that fits")
  static void worthUnknownGoesAheadOfOutside() {
    Due.is(Desk.withWords(1).worth(4, 0, -1), -1);
    Due.is(Desk.withWords(1).worth(0, 1, 3001), -1);
    Due.is(Desk.withWords(1).worth(0, -1, -1), -1);
  }

  // ---- Promise 32: forget

  private static KeyDesk learned() {
    KeyDesk x = Desk.withWords(3);
    x.learn(0, 0, 1);
    x.learn(0, 1, 2);
    x.learn(1, 0, 3);
    x.learn(0, 0, 4);
    x.learn(3, 2, 5);
    return x;
  }

  @Edge(promise = 32, sentence = "A HAND forgets a WORD (-1: all): how many learnings go.")
  static void oneWordOfOneHandGoes() {
    KeyDesk x = learned();
    Due.is(x.forget(0, 0), 2);
    Due.is(x.told(7), 3);
    Due.is(x.worth(0, 0, 4), 0);
    Due.is(x.worth(0, 1, 2), 1000);
    Due.is(x.worth(1, 0, 3), 1000);
    Due.is(x.worth(3, 2, 5), 1000);
  }

  @Edge(promise = 32, sentence = "(-1: all): how many learnings go")
  static void allWordsOfOneHandGo() {
    KeyDesk x = learned();
    Due.is(x.forget(0, -1), 3);
    Due.is(x.told(7), 2);
    Due.is(x.worth(0, 0, 4), 0);
    Due.is(x.worth(0, 1, 2), 0);
    Due.is(x.worth(1, 0, 3), 1000);
    Due.is(x.worth(3, 2, 5), 1000);
  }

  @Edge(promise = 32, sentence = "how many learnings go")
  static void whereNothingWasLearned0Go() {
    KeyDesk x = learned();
    Due.is(x.forget(2, -1), 0);
    Due.is(x.forget(2, 0), 0);
    Due.is(x.forget(0, 2), 0);
    Due.is(x.forget(0, 0), 2);
    Due.is(x.forget(0, 0), 0);
    Due.is(new KeyDesk().forget(0, -1), 0);
  }

  @Edge(promise = 32, sentence = "60 learnings at most of all .. how many learnings go")
  static void sixtyLearningsGoAndMakeRoom() {
    KeyDesk x = Desk.withWords(1);
    Desk.fillLearnings(x, 3, 0, 3000);
    Due.is(x.forget(3, -1), 60);
    Due.is(x.told(7), 0);
    Desk.fillLearnings(x, 3, 0, 3000);
    Due.is(x.told(7), 60);
    Due.is(x.forget(3, 0), 60);
    Due.is(x.learn(2, 0, 0), 1);
  }

  @Edge(promise = 32, sentence = "forgotten whole .. no DAY ahead of the latest one of that HAND")
  static void daysOfForgottenLearningsBindNoMore() {
    KeyDesk x = learned();
    x.forget(0, 0);
    // What is left of HAND 0 is of DAY 2.
    Due.is(x.learn(0, 0, 1), -5);
    Due.is(x.learn(0, 0, 2), 4);
    x.forget(0, -1);
    Due.is(x.learn(0, 0, 0), 3);
  }

  @Edge(promise = 32, sentence = "HANDS 0 to 3 .. UNKNOWN.")
  static void forgetOfNoHandIsUnknown() {
    for (int hand : Desk.beyond(0, 3)) {
      Due.is(learned().forget(hand, 0), -1);
      Due.is(learned().forget(hand, -1), -1);
    }
  }

  @Edge(promise = 32, sentence = "A HAND forgets a WORD (-1: all) .. UNKNOWN.")
  static void forgetOfWordBelowMinus1IsUnknown() {
    for (int word : Desk.below(-1)) {
      Due.is(learned().forget(0, word), -1);
    }
  }

  @Edge(promise = 32, sentence = "there is no such .. WORD .. UNKNOWN.")
  static void forgetOfWordBehindTheLastIsUnknown() {
    Due.is(new KeyDesk().forget(0, 0), -1);
    for (int word : Desk.above(2)) {
      Due.is(learned().forget(0, word), -1);
    }
  }

  @Edge(promise = 32, sentence = "They change nothing.")
  static void refusedForgetChangesNothing() {
    Twins.refused(-1, x -> x.forget(4, -1));
    Twins.refused(-1, x -> x.forget(0, 3));
    Twins.refused(-1, x -> x.forget(0, -2));
  }

  // ---- Promise 33: fade

  @Edge(promise = 33, sentence = "FADE (0 to 1000; 900 at first) .. FADE: which it was.")
  static void fades0And1000AreTaken() {
    KeyDesk x = Desk.withWords(1);
    x.learn(0, 0, 5);
    Due.is(x.fade(0), 900);
    Due.is(x.worth(0, 0, 5), 1000);
    Due.is(x.worth(0, 0, 6), 0);
    Due.is(x.fade(1000), 0);
    Due.is(x.worth(0, 0, 6), 1000);
    Due.is(x.fade(1), 1000);
    Due.is(x.worth(0, 0, 6), 1);
    Due.is(x.worth(0, 0, 7), 0);
  }

  @Edge(promise = 33, sentence = "FADE (0 to 1000; 900 at first) .. OUTSIDE.")
  static void fadeBelow0IsOutside() {
    for (int v : Desk.below(0)) {
      Due.is(new KeyDesk().fade(v), -2);
    }
  }

  @Edge(promise = 33, sentence = "FADE (0 to 1000; 900 at first) .. OUTSIDE.")
  static void fadeAbove1000IsOutside() {
    for (int v : Desk.above(1000)) {
      Due.is(new KeyDesk().fade(v), -2);
    }
  }

  @Edge(promise = 33, sentence = "They change nothing.")
  static void refusedFadeChangesNothing() {
    Twins.refused(-2, x -> x.fade(-1));
    Twins.refused(-2, x -> x.fade(1001));
  }

  // ---- Promise 34: mine

  /** WORDS 0 to 2 are the KEY 5, of COUNT 1 and the TONGUES 0 to 2; WORD 3 is the KEY 6; the PAD holds 5. */
  private static KeyDesk guessing() {
    KeyDesk x = new KeyDesk();
    for (int t = 0; t <= 2; t++) {
      Desk.word(x, t, 1, 5);
    }
    Desk.word(x, 0, 100, 6);
    Desk.keys(x, 5);
    return x;
  }

  @Edge(promise = 34, sentence = "HANDS 0 to 3 .. UNKNOWN; OUTSIDE; STATE.")
  static void mineOfNoHandIsUnknown() {
    for (int hand : Desk.beyond(0, 3)) {
      Due.is(guessing().mine(hand, 0, 7, 60, -1), -1);
    }
  }

  @Edge(promise = 34, sentence = "DAYS (0 to 3000 .. UNKNOWN; OUTSIDE; STATE.")
  static void mineOnADayBeyondIsOutside() {
    for (int day : Desk.beyond(0, 3000)) {
      Due.is(guessing().mine(0, day, 7, 60, -1), -2);
    }
  }

  @Edge(promise = 34, sentence = "OWN GUESSES are as GUESSES .. UNKNOWN; OUTSIDE; STATE.")
  static void mineInTonguesBeyondIsOutside() {
    for (int tongues : Desk.beyond(1, 7)) {
      Due.is(guessing().mine(0, 0, tongues, 60, -1), -2);
    }
  }

  @Edge(promise = 34, sentence = "within P (0 to 60) .. UNKNOWN; OUTSIDE; STATE.")
  static void mineWithinPBeyondIsOutside() {
    for (int p : Desk.beyond(0, 60)) {
      Due.is(guessing().mine(0, 0, 7, p, -1), -2);
    }
  }

  @Edge(promise = 34, sentence = "UNKNOWN; OUTSIDE; STATE.")
  static void mineOfAnEmptyPadIsState() {
    KeyDesk x = guessing();
    x.wipe(0);
    Due.is(x.mine(0, 0, 7, 60, -1), -3);
    Due.is(x.mine(3, 3000, 1, 0, 0), -3);
  }

  @Edge(promise = 34, sentence = "the first of these that fits")
  static void mineUnknownGoesFirst() {
    Due.is(new KeyDesk().mine(4, 0, 7, 60, -1), -1);
    Due.is(new KeyDesk().mine(-1, -1, 0, 61, -1), -1);
  }

  @Edge(promise = 34, sentence = "the first of these that fits")
  static void mineOutsideGoesAheadOfState() {
    Due.is(new KeyDesk().mine(0, -1, 7, 60, -1), -2);
    Due.is(new KeyDesk().mine(0, 0, 8, 60, -1), -2);
    Due.is(new KeyDesk().mine(0, 0, 7, 61, -1), -2);
  }

  @Edge(promise = 34, sentence = "OWN GUESSES: how many (i = -1), the i-th; NONE.")
  static void withoutWordsThereAreNoOwnGuesses() {
    KeyDesk x = new KeyDesk();
    x.key(1);
    Due.is(x.mine(0, 0, 7, 60, -1), 0);
    Due.is(x.mine(0, 0, 7, 60, 0), -6);
  }

  @Edge(promise = 34, sentence = "OWN GUESSES: how many (i = -1), the i-th; NONE.")
  static void ownGuessBehindTheLastIsNone() {
    KeyDesk x = guessing();
    Due.is(x.mine(0, 0, 7, 60, -1), 4);
    Due.is(x.mine(0, 0, 7, 60, 3), 3);
    for (int i : Desk.above(3)) {
      Due.is(x.mine(0, 0, 7, 60, i), -6);
    }
  }

  @Edge(promise = 34, sentence = "OWN GUESSES: how many (i = -1), the i-th; NONE.")
  static void ownGuessBelowMinus1IsNone() {
    for (int i : Desk.below(-1)) {
      Due.is(guessing().mine(0, 0, 7, 60, i), -6);
    }
  }

  @Edge(promise = 34, sentence = "OWN GUESSES are as GUESSES .. in some TONGUES (bits), within P (0 to 60)")
  static void ownGuessesKeepToTonguesAndP() {
    KeyDesk x = guessing();
    for (int tongues = 1; tongues <= 7; tongues++) {
      Due.is(x.mine(0, 0, tongues, 0, -1), Integer.bitCount(tongues));
      Due.is(x.mine(0, 3000, tongues, 2, 0), Integer.numberOfTrailingZeros(tongues));
    }
    Due.is(x.mine(3, 0, 1, 3, -1), 2);
    Due.is(x.mine(3, 0, 1, 2, -1), 1);
  }

  @Edge(promise = 34, sentence = "but of like PRICE by 1000 times COUNT and WORTH, the greatest first")
  static void worthOrdersGuessesOfLikePriceAlone() {
    KeyDesk x = guessing();
    x.learn(0, 2, 10);
    Due.is(x.mine(0, 10, 7, 60, 0), 2);
    Due.is(x.mine(0, 10, 7, 60, 1), 0);
    Due.is(x.mine(0, 10, 7, 60, 2), 1);
    // WORD 3 has the greatest COUNT, but is dearer.
    Due.is(x.mine(0, 10, 7, 60, 3), 3);
    x.learn(0, 3, 10);
    Due.is(x.mine(0, 10, 7, 60, 3), 3);
  }

  @Edge(promise = 34, sentence = "by 1000 times COUNT and WORTH, the greatest first .. of that DAY or ahead")
  static void ownGuessesKeepToTheHandAndTheDay() {
    KeyDesk x = guessing();
    x.learn(0, 2, 10);
    Due.is(x.mine(0, 9, 7, 0, 0), 0);
    Due.is(x.mine(0, 10, 7, 0, 0), 2);
    Due.is(x.mine(1, 10, 7, 0, 0), 0);
    // 1000 become 0 in the end.
    Due.is(x.mine(0, 3000, 7, 0, 0), 0);
  }

  @Edge(promise = 34, sentence = "by 1000 times COUNT and WORTH, the greatest first .. then by numbers")
  static void ofLikeSumsTheFirstByNumbers() {
    KeyDesk x = guessing();
    x.learn(0, 2, 10);
    x.count(0, 2);
    // 2000 of COUNT, and 1000 of COUNT with 1000 of WORTH.
    Due.is(x.mine(0, 10, 7, 0, 0), 0);
    Due.is(x.mine(0, 10, 7, 0, 1), 2);
    Due.is(x.mine(0, 10, 7, 0, 2), 1);
    x.count(0, 1);
    x.count(1, 2);
    Due.is(x.mine(0, 10, 7, 0, 0), 1);
    // On the next DAY it is 1900.
    Due.is(x.mine(0, 11, 7, 0, 1), 2);
    x.learn(0, 2, 11);
    Due.is(x.mine(0, 11, 7, 0, 0), 2);
  }

  // ---- Promise 35: budget

  @Edge(promise = 35, sentence = "BUDGETS of HANDS: 0 to 1000 (100 at first) .. BUDGET: which it was.")
  static void budgets0And1000AreTaken() {
    KeyDesk x = new KeyDesk();
    for (int hand = 0; hand <= 3; hand++) {
      Due.is(x.budget(hand, 0), 100);
      Due.is(x.budget(hand, 1000), 0);
      Due.is(x.budget(hand, 1000 - hand), 1000);
    }
    for (int hand = 0; hand <= 3; hand++) {
      Due.is(x.told(30 + hand), 1000 - hand);
    }
  }

  @Edge(promise = 35, sentence = "BUDGETS of HANDS: 0 to 1000 (100 at first) .. UNKNOWN; OUTSIDE.")
  static void budgetBelow0IsOutside() {
    for (int v : Desk.below(0)) {
      Due.is(new KeyDesk().budget(0, v), -2);
    }
  }

  @Edge(promise = 35, sentence = "BUDGETS of HANDS: 0 to 1000 (100 at first) .. UNKNOWN; OUTSIDE.")
  static void budgetAbove1000IsOutside() {
    for (int v : Desk.above(1000)) {
      Due.is(new KeyDesk().budget(0, v), -2);
    }
  }

  @Edge(promise = 35, sentence = "HANDS 0 to 3 .. UNKNOWN; OUTSIDE.")
  static void budgetOfNoHandIsUnknown() {
    for (int hand : Desk.beyond(0, 3)) {
      Due.is(new KeyDesk().budget(hand, 5), -1);
    }
  }

  @Edge(promise = 35, sentence = "the first of these that fits")
  static void budgetUnknownGoesAheadOfOutside() {
    Due.is(new KeyDesk().budget(4, -1), -1);
    Due.is(new KeyDesk().budget(-1, 1001), -1);
  }

  @Edge(promise = 35, sentence = "They change nothing.")
  static void refusedBudgetChangesNothing() {
    Twins.refused(-1, x -> x.budget(4, 5));
    Twins.refused(-1, x -> x.budget(-1, 5));
    Twins.refused(-2, x -> x.budget(0, -1));
    Twins.refused(-2, x -> x.budget(3, 1001));
  }

  // ---- Promise 36: seed

  @Edge(promise = 36, sentence = "a seed x (1 to 1000000; 1 at first) .. The seed of LOTS: which it was.")
  static void seeds1And1000000AreTaken() {
    KeyDesk x = new KeyDesk();
    Due.is(x.seed(1000000), 1);
    Due.is(x.seed(1), 1000000);
    Due.is(x.seed(1), 1);
  }

  @Edge(promise = 36, sentence = "a seed x (1 to 1000000; 1 at first) .. OUTSIDE.")
  static void seedBelow1IsOutside() {
    for (int v : Desk.below(1)) {
      Due.is(new KeyDesk().seed(v), -2);
    }
  }

  @Edge(promise = 36, sentence = "a seed x (1 to 1000000; 1 at first) .. OUTSIDE.")
  static void seedAbove1000000IsOutside() {
    for (int v : Desk.above(1000000)) {
      Due.is(new KeyDesk().seed(v), -2);
    }
  }

  @Edge(promise = 36, sentence = "becomes x times 16807 left over by 2147483647")
  static void seedWrapsAroundAt2147483647() {
    KeyDesk x = Desk.withWords(1);
    x.seed(1000000);
    x.share(0, 1, 0);
    // 16807000000 less 7 times 2147483647, which is beyond an int on the way and above 1000000 in the end.
    Due.is(x.seed(1), 1774614471);
    for (int n = 0; n < 3; n++) {
      x.share(0, 1, 0);
    }
    Due.is(x.seed(1), 1622650073);
  }

  @Edge(promise = 36, sentence = "They change nothing.")
  static void refusedSeedChangesNothing() {
    Twins.refused(-2, x -> x.seed(0));
    Twins.refused(-2, x -> x.seed(1000001));
  }

  // ---- Promise 37: share

  /** BUDGETS of the HANDS 0 to 3, and one WORD. */
  private static KeyDesk sharing(int... budgets) {
    KeyDesk x = Desk.withWords(1);
    for (int hand = 0; hand <= 3; hand++) {
      x.budget(hand, budgets[hand]);
    }
    return x;
  }

  /** A seed of which the LOT comes from 1000: it is 0. */
  private static final int NO_LOT = 715;

  @Edge(promise = 37, sentence = "SHARING a WORD at e (1 to 100) on a DAY")
  static void shareAt1And100() {
    KeyDesk x = sharing(100, 100, 100, 100);
    x.learn(0, 0, 5);
    x.learn(3, 0, 5);
    x.seed(NO_LOT);
    Due.is(x.share(0, 1, 5), 2000);
    for (int hand = 0; hand <= 3; hand++) {
      Due.is(x.told(30 + hand), 99);
      x.budget(hand, 100);
    }
    x.seed(NO_LOT);
    Due.is(x.share(0, 100, 6), 1800);
    for (int hand = 0; hand <= 3; hand++) {
      Due.is(x.told(30 + hand), 0);
    }
  }

  @Edge(promise = 37, sentence = "SHARING a WORD at e (1 to 100) .. UNKNOWN, OUTSIDE: e, the DAY (-1000001, -1000002)")
  static void shareAtEBelow1IsOutside() {
    for (int e : Desk.below(1)) {
      Due.is(sharing(100, 100, 100, 100).share(0, e, 0), -1000002);
    }
  }

  @Edge(promise = 37, sentence = "SHARING a WORD at e (1 to 100) .. UNKNOWN, OUTSIDE: e, the DAY (-1000001, -1000002)")
  static void shareAtEAbove100IsOutside() {
    for (int e : Desk.above(100)) {
      Due.is(sharing(1000, 1000, 1000, 1000).share(0, e, 0), -1000002);
    }
  }

  @Edge(promise = 37, sentence = "on DAYS (0 to 3000")
  static void shareOnDays0And3000() {
    KeyDesk x = sharing(100, 100, 100, 100);
    x.learn(0, 0, 0);
    x.learn(1, 0, 3000);
    x.seed(NO_LOT);
    Due.is(x.share(0, 1, 0), 1000);
    x.seed(NO_LOT);
    Due.is(x.share(0, 1, 3000), 1000);
  }

  @Edge(promise = 37, sentence = "UNKNOWN, OUTSIDE: e, the DAY (-1000001, -1000002)")
  static void shareOnADayBeyondIsOutside() {
    for (int day : Desk.beyond(0, 3000)) {
      Due.is(sharing(100, 100, 100, 100).share(0, 1, day), -1000002);
    }
  }

  @Edge(promise = 37, sentence = "there is no such .. WORD .. UNKNOWN, OUTSIDE: e, the DAY (-1000001, -1000002)")
  static void shareOfNoWordIsUnknown() {
    Due.is(new KeyDesk().share(0, 1, 0), -1000001);
    for (int word : Desk.beyond(0, 0)) {
      Due.is(sharing(100, 100, 100, 100).share(word, 1, 0), -1000001);
    }
  }

  @Edge(promise = 37, sentence = "HANDS with a BUDGET of e or more, two at least .. NO: too few HANDS (-1000005).")
  static void oneHandOrNoneIsTooFew() {
    Due.is(sharing(0, 0, 0, 0).share(0, 1, 0), -1000005);
    for (int hand = 0; hand <= 3; hand++) {
      KeyDesk x = sharing(49, 49, 49, 49);
      x.budget(hand, 1000);
      Due.is(x.share(0, 50, 0), -1000005);
    }
  }

  @Edge(promise = 37, sentence = "HANDS with a BUDGET of e or more, two at least")
  static void twoHandsAreEnough() {
    KeyDesk x = sharing(0, 50, 0, 50);
    for (int hand = 0; hand <= 3; hand++) {
      x.learn(hand, 0, 5);
    }
    x.seed(NO_LOT);
    Due.is(x.share(0, 50, 5), 2000);
    for (int hand = 0; hand <= 3; hand++) {
      Due.is(x.told(30 + hand), 0);
    }
    Due.is(x.share(0, 50, 5), -1000005);
  }

  @Edge(promise = 37, sentence = "HANDS with a BUDGET of e or more .. each one's BUDGET is less by e")
  static void handWith1LessThanEGivesNothing() {
    KeyDesk x = sharing(50, 49, 51, 1000);
    for (int hand = 0; hand <= 3; hand++) {
      x.learn(hand, 0, 5);
    }
    x.seed(NO_LOT);
    Due.is(x.share(0, 50, 5), 3000);
    Due.is(x.told(30), 0);
    Due.is(x.told(31), 49);
    Due.is(x.told(32), 1);
    Due.is(x.told(33), 950);
  }

  @Edge(promise = 37, sentence = "give WORTH, 5000 at most, each")
  static void fiveLearningsAreGivenWholeAndSixAreNot() {
    KeyDesk x = sharing(100, 100, 100, 100);
    for (int n = 0; n < 5; n++) {
      x.learn(0, 0, 5);
    }
    x.seed(NO_LOT);
    Due.is(x.share(0, 1, 5), 5000);
    x.learn(0, 0, 5);
    x.seed(NO_LOT);
    Due.is(x.share(0, 1, 5), 5000);
    x.seed(NO_LOT);
    // 6 times 900, then 6 times 810.
    Due.is(x.share(0, 1, 6), 5000);
    x.seed(NO_LOT);
    Due.is(x.share(0, 1, 7), 4860);
  }

  @Edge(promise = 37, sentence = "give WORTH, 5000 at most, each")
  static void fourHandsGive20000AtMost() {
    KeyDesk x = sharing(100, 100, 100, 100);
    for (int n = 0; n < 60; n++) {
      x.learn(n % 4, 0, 5);
    }
    x.seed(NO_LOT);
    Due.is(x.share(0, 1, 5), 20000);
    // The greatest LOT is 100000.
    x.seed(1430);
    Due.is(x.share(0, 1, 5), 120000);
  }

  @Edge(promise = 37, sentence = "the LOT is ((x left over by 2001) less 1000) times 100 by e, cut towards 0")
  static void leastLotIsMinus100000() {
    KeyDesk x = sharing(100, 100, 100, 100);
    x.seed(2001);
    Due.is(x.share(0, 1, 5), -100000);
    x.seed(2001);
    Due.is(x.share(0, 100, 5), -1000005);
    x.budget(0, 100);
    x.budget(1, 100);
    Due.is(x.share(0, 100, 5), -1000);
  }

  @Edge(promise = 37, sentence = "times 100 by e, cut towards 0")
  static void lotIsCutTowards0OnBothSides() {
    KeyDesk x = sharing(1000, 1000, 1000, 1000);
    // 999 and 1001, less 1000, times 100 by 99 and by 3: -1.01 and 33.3 with their like.
    x.seed(144);
    Due.is(x.share(0, 99, 5), -1);
    x.seed(1286);
    Due.is(x.share(0, 99, 5), 1);
    x.seed(144);
    Due.is(x.share(0, 3, 5), -33);
    x.seed(1286);
    Due.is(x.share(0, 3, 5), 33);
    // -201 times 100 by 7 is -2871.4.
    x.seed(1);
    Due.is(x.share(0, 7, 5), -2871);
  }

  @Edge(promise = 37, sentence = "a seed x (1 to 1000000; 1 at first) becomes x times 16807 left over by 2147483647")
  static void lotsOfTheGreatestSeed() {
    KeyDesk x = sharing(1000, 1000, 1000, 1000);
    x.seed(1000000);
    // 1774614471, of which 1608 is left over by 2001.
    Due.is(x.share(0, 100, 5), 1774614471 % 2001 - 1000);
  }

  @Edge(promise = 37, sentence = "the first of these that fits")
  static void shareUnknownGoesFirst() {
    Due.is(sharing(0, 0, 0, 0).share(1, 0, -1), -1000001);
    Due.is(sharing(0, 0, 0, 0).share(-1, 1, 0), -1000001);
  }

  @Edge(promise = 37, sentence = "the first of these that fits")
  static void shareOutsideGoesAheadOfNo() {
    Due.is(sharing(0, 0, 0, 0).share(0, 101, 0), -1000002);
    Due.is(sharing(0, 0, 0, 0).share(0, 1, 3001), -1000002);
  }

  @Edge(promise = 37, sentence = "They change nothing.")
  static void refusedShareChangesNothing() {
    Twins.refused(-1000001, x -> x.share(3, 1, 8));
    Twins.refused(-1000002, x -> x.share(0, 0, 8));
    Twins.refused(-1000002, x -> x.share(0, 1, 3001));
    Twins.refused(-1000005, x -> {
      x.budget(0, 9);
      x.budget(1, 9);
      x.budget(2, 9);
    }, x -> x.share(0, 10, 8));
  }
}
