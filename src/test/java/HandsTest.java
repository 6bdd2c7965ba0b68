/** Promises 30 to 37: HANDS learn, forget, guess and share. */
public final class HandsTest {
  public static void main(String[] args) {
    learns();
    worths();
    fades();
    forgets();
    ownGuesses();
    budgets();
    seeds();
    shares();
    gifts();
    Due.end();
  }

  private static KeyDesk desk(int words) {
    KeyDesk x = new KeyDesk();
    for (int w = 0; w < words; w++) {
      x.key(2);
      x.word(w % 3, 1 + w, 1);
    }
    return x;
  }

  private static void learns() {
    KeyDesk x = desk(2);
    Due.is(x.learn(-1, 0, 0), -1);
    Due.is(x.learn(4, 0, 0), -1);
    Due.is(x.learn(0, 2, -1), -1);
    Due.is(x.learn(0, -1, 0), -1);
    Due.is(x.learn(0, 0, -1), -2);
    Due.is(x.learn(0, 0, 3001), -2);
    Due.is(x.told(7), 0);
    Due.is(x.learn(0, 0, 0), 1);
    Due.is(x.learn(0, 0, 0), 2);
    Due.is(x.learn(3, 1, 3000), 3);
    Due.is(x.learn(3, 1, 2999), -5);
    Due.is(x.learn(3, 0, 0), -5);
    Due.is(x.learn(0, 1, 7), 4);
    Due.is(x.learn(0, 0, 6), -5);
    Due.is(x.learn(1, 0, 6), 5);
    for (int n = 6; n <= 60; n++) {
      Due.is(x.learn(2, n % 2, n), n);
    }
    Due.is(x.learn(2, 0, 60), -4);
    Due.is(x.learn(2, 0, 59), -4);
    Due.is(x.learn(2, 0, 3001), -2);
    Due.is(x.told(7), 60);
    Due.is(x.worth(2, 0, 6), 1000);
  }

  private static void worths() {
    KeyDesk x = desk(2);
    Due.is(x.worth(-1, 0, 0), -1);
    Due.is(x.worth(4, 0, 0), -1);
    Due.is(x.worth(0, 2, -1), -1);
    Due.is(x.worth(0, -1, 0), -1);
    Due.is(x.worth(0, 0, -1), -2);
    Due.is(x.worth(0, 0, 3001), -2);
    Due.is(x.worth(0, 0, 0), 0);
    x.learn(0, 0, 10);
    Due.is(x.worth(0, 0, 9), 0);
    Due.is(x.worth(0, 0, 10), 1000);
    Due.is(x.worth(0, 0, 11), 900);
    Due.is(x.worth(0, 0, 12), 810);
    Due.is(x.worth(0, 0, 13), 729);
    // 729 times 900 by 1000 is 656.1, cut; then 590.4, cut; 531; 477.9, cut.
    Due.is(x.worth(0, 0, 14), 656);
    Due.is(x.worth(0, 0, 15), 590);
    Due.is(x.worth(0, 0, 16), 531);
    Due.is(x.worth(0, 0, 17), 477);
    Due.is(x.worth(0, 0, 3000), 0);
    Due.is(x.worth(0, 1, 10), 0);
    Due.is(x.worth(1, 0, 10), 0);
    x.learn(0, 0, 12);
    x.learn(0, 1, 12);
    x.learn(0, 0, 12);
    x.learn(2, 0, 1);
    Due.is(x.worth(0, 0, 11), 900);
    Due.is(x.worth(0, 0, 12), 2810);
    Due.is(x.worth(0, 0, 14), 656 + 2 * 810);
    Due.is(x.worth(0, 1, 13), 900);
    Due.is(x.worth(2, 0, 3), 810);
  }

  private static void fades() {
    KeyDesk x = desk(1);
    Due.is(x.fade(-1), -2);
    Due.is(x.fade(1001), -2);
    x.learn(0, 0, 0);
    Due.is(x.fade(1000), 900);
    Due.is(x.worth(0, 0, 3000), 1000);
    Due.is(x.fade(0), 1000);
    Due.is(x.worth(0, 0, 0), 1000);
    Due.is(x.worth(0, 0, 1), 0);
    Due.is(x.fade(999), 0);
    // Cut, it is less by 1 on each DAY.
    Due.is(x.worth(0, 0, 1), 999);
    Due.is(x.worth(0, 0, 2), 998);
    Due.is(x.worth(0, 0, 600), 400);
    Due.is(x.worth(0, 0, 999), 1);
    Due.is(x.worth(0, 0, 1000), 0);
    Due.is(x.fade(500), 999);
    Due.is(x.worth(0, 0, 3), 125);
    Due.is(x.worth(0, 0, 4), 62);
    Due.is(x.worth(0, 0, 9), 1);
    Due.is(x.worth(0, 0, 10), 0);
  }

  private static void forgets() {
    KeyDesk x = desk(3);
    Due.is(x.forget(-1, 0), -1);
    Due.is(x.forget(4, -1), -1);
    Due.is(x.forget(0, 3), -1);
    Due.is(x.forget(0, -2), -1);
    Due.is(x.forget(0, -1), 0);
    x.learn(0, 0, 1);
    x.learn(1, 0, 2);
    x.learn(0, 1, 3);
    x.learn(0, 0, 4);
    x.learn(1, 1, 5);
    x.learn(0, 2, 6);
    Due.is(x.forget(0, 0), 2);
    Due.is(x.told(7), 4);
    Due.is(x.worth(0, 0, 6), 0);
    Due.is(x.worth(0, 1, 3), 1000);
    Due.is(x.worth(1, 0, 2), 1000);
    Due.is(x.forget(0, 0), 0);
    Due.is(x.forget(0, -1), 2);
    Due.is(x.told(7), 2);
    Due.is(x.worth(0, 1, 3), 0);
    Due.is(x.worth(1, 1, 5), 1000);
    // It is forgotten whole, its DAYS too: what the HAND still knows tells its latest DAY.
    Due.is(x.learn(0, 0, 0), 3);
    Due.is(x.forget(1, 1), 1);
    Due.is(x.learn(1, 0, 1), -5);
    Due.is(x.learn(1, 0, 2), 3);
    Due.is(x.forget(2, -1), 0);
    // What goes makes room.
    for (int n = 4; n <= 60; n++) {
      x.learn(3, 0, 9);
    }
    Due.is(x.learn(3, 0, 9), -4);
    Due.is(x.forget(3, 0), 57);
    Due.is(x.learn(3, 0, 9), 4);
  }

  private static void ownGuesses() {
    KeyDesk x = desk(6);
    Due.is(x.mine(-1, -1, 0, 0, 0), -1);
    Due.is(x.mine(4, 0, 7, 0, 0), -1);
    Due.is(x.mine(0, -1, 7, 0, 0), -2);
    Due.is(x.mine(0, 3001, 7, 0, 0), -2);
    Due.is(x.mine(0, 0, 0, 0, 0), -2);
    Due.is(x.mine(0, 0, 8, 0, 0), -2);
    Due.is(x.mine(0, 0, 7, -1, 0), -2);
    Due.is(x.mine(0, 0, 7, 61, 0), -2);
    Due.is(x.mine(0, 0, 7, 0, -1), -3);
    x.key(1);
    x.word(0, 9, 100);
    x.key(2);
    Due.is(x.mine(0, 0, 7, 0, -1), 6);
    Due.is(x.mine(0, 0, 7, 3, -1), 7);
    Due.is(x.mine(0, 0, 7, 3, 6), 6);
    Due.is(x.mine(0, 0, 7, 3, 7), -6);
    Due.is(x.mine(0, 0, 7, 3, -2), -6);
    x.learn(0, 4, 10);
    x.learn(0, 5, 11);
    x.learn(1, 3, 11);
    Due.is(x.mine(0, 9, 7, 3, 0), 0);
    Due.is(x.mine(0, 10, 7, 3, 0), 4);
    Due.is(x.mine(0, 10, 7, 3, 1), 0);
    Due.is(x.mine(0, 10, 1, 3, -1), 3);
    Due.is(x.mine(0, 10, 1, 60, -1), 3);
    Due.is(x.mine(0, 11, 7, 3, 0), 5);
    Due.is(x.mine(0, 11, 7, 3, 1), 4);
    Due.is(x.mine(0, 11, 7, 3, 2), 0);
    Due.is(x.mine(0, 11, 7, 3, 6), 6);
    Due.is(x.mine(1, 11, 7, 3, 0), 3);
    Due.is(x.mine(2, 11, 7, 3, 0), 0);
    Due.is(x.guess(7, 3, 0), 0);
    // WORTH 1000 weighs as COUNT 1: of like ones the first number.
    x.count(0, 2);
    Due.is(x.mine(0, 11, 7, 3, 0), 0);
    Due.is(x.mine(0, 11, 7, 3, 1), 5);
    Due.is(x.mine(0, 11, 2, 3, 0), 4);
    Due.is(x.mine(0, 11, 2, 3, 1), 1);
    Due.is(x.mine(0, 11, 2, 3, 2), -6);
    x.count(0, 1);
    x.count(1, 2);
    x.fade(999);
    Due.is(x.mine(0, 12, 7, 0, 0), 1);
    Due.is(x.mine(0, 12, 7, 0, 1), 5);
    Due.is(x.mine(0, 12, 7, 0, 2), 4);
    // GUESSES heed no HAND, nor its first DAY.
    KeyDesk y = desk(2);
    y.learn(0, 1, 0);
    y.learn(3, 1, 0);
    y.key(2);
    Due.is(y.guess(7, 0, 0), 0);
    Due.is(y.guess(7, 0, 1), 1);
    Due.is(y.mine(0, 0, 7, 0, 0), 1);
    Due.is(y.mine(3, 0, 7, 0, 0), 1);
    Due.is(y.mine(1, 0, 7, 0, 0), 0);
  }

  private static void budgets() {
    KeyDesk x = new KeyDesk();
    Due.is(x.budget(-1, -1), -1);
    Due.is(x.budget(4, 0), -1);
    Due.is(x.budget(0, -1), -2);
    Due.is(x.budget(0, 1001), -2);
    Due.is(x.budget(3, 1000), 100);
    Due.is(x.budget(3, 0), 1000);
    Due.is(x.told(33), 0);
    Due.is(x.told(32), 100);
    Due.is(x.budget(0, 1), 100);
    Due.is(x.told(30), 1);
  }

  private static void seeds() {
    KeyDesk x = desk(1);
    Due.is(x.seed(0), -2);
    Due.is(x.seed(-5), -2);
    Due.is(x.seed(1000001), -2);
    Due.is(x.seed(1000000), 1);
    Due.is(x.seed(1), 1000000);
    // 1 becomes 16807, 282475249, 1622650073, 984943658, 1144108930.
    Due.is(x.share(0, 1, 0), -20100);
    Due.is(x.seed(1), 16807);
    for (int n = 0; n < 5; n++) {
      x.share(0, 1, 0);
    }
    Due.is(x.seed(1), 1144108930);
  }

  private static void shares() {
    KeyDesk x = desk(1);
    Due.is(x.share(1, 0, -1), -1000001);
    Due.is(x.share(-1, 1, 1), -1000001);
    Due.is(x.share(0, 0, 1), -1000002);
    Due.is(x.share(0, 101, 1), -1000002);
    Due.is(x.share(0, 1, -1), -1000002);
    Due.is(x.share(0, 1, 3001), -1000002);
    x.budget(0, 60);
    x.budget(1, 60);
    x.budget(2, 59);
    x.budget(3, 0);
    Due.is(x.share(0, 61, 0), -1000005);
    Due.is(x.seed(1), 1);
    Due.is(x.told(30), 60);
    // 16807 left over by 2001 is 799: the LOT is -201 times 100 by 60, that is -335.
    x.learn(0, 0, 0);
    x.learn(2, 0, 0);
    Due.is(x.share(0, 60, 1), 900 - 335);
    Due.is(x.told(30), 0);
    Due.is(x.told(31), 0);
    Due.is(x.told(32), 59);
    Due.is(x.told(33), 0);
    Due.is(x.share(0, 60, 1), -1000005);
    Due.is(x.share(0, 1, 1), -1000005);
    Due.is(x.seed(1), 16807);
    // Cut towards 0: -20100 by 7 is -2871.4.
    x.budget(3, 7);
    Due.is(x.share(0, 7, 0), 1000 - 2871);
    Due.is(x.told(32), 52);
    Due.is(x.told(33), 0);
    // 2 becomes 33614, left over 1598: 598.
    x.seed(2);
    x.budget(3, 100);
    x.budget(2, 100);
    Due.is(x.share(0, 100, 0), 1000 + 598);
    x.seed(2);
    x.budget(1, 3);
    x.budget(2, 3);
    Due.is(x.share(0, 3, 1), 900 + 19933);
  }

  private static void gifts() {
    KeyDesk x = desk(1);
    x.fade(1000);
    for (int n = 0; n < 9; n++) {
      x.learn(0, 0, 5);
      x.learn(1, 0, n);
    }
    x.learn(2, 0, 7);
    // 5000 at most of each: 5000, 5000, 1000, 0, and the LOT of the seed 2.
    x.seed(2);
    Due.is(x.share(0, 100, 9), 11000 + 598);
    x.budget(0, 100);
    x.budget(1, 100);
    x.seed(2);
    // On DAY 4 the first has learned nothing, the second 5 times; the others have no BUDGET.
    Due.is(x.share(0, 100, 4), 5000 + 598);
    x.budget(1, 100);
    x.budget(3, 100);
    x.seed(2);
    Due.is(x.share(0, 50, 3), 4000 + 1196);
    Due.is(x.told(31), 50);
    Due.is(x.told(33), 50);
    Due.is(x.told(7), 19);
  }
}
