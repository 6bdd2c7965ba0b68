import java.util.function.Consumer;
import java.util.function.ToLongFunction;

/** Two desks brought to one state: one of them is refused a call, then both must answer everything alike. */
final class Twins {
  private Twins() {
  }

  /** A call that is refused so, on a desk that has something of everything, and changes nothing. */
  static void refused(long due, Consumer<KeyDesk> further, ToLongFunction<KeyDesk> call) {
    KeyDesk asked = furnished();
    KeyDesk spared = furnished();
    further.accept(asked);
    further.accept(spared);
    Due.is(call.applyAsLong(asked), due);
    compare(asked, spared);
  }

  static void refused(long due, ToLongFunction<KeyDesk> call) {
    refused(due, x -> { }, call);
  }

  private static KeyDesk furnished() {
    KeyDesk x = new KeyDesk();
    Desk.rule(x, 0, Desk.row(1), 5);
    Desk.rule(x, 0, Desk.row(2, 3), 6, 7);
    Desk.rule(x, 1, Desk.row(1), 8);
    x.join(0, 5, 6, 9);
    x.own(0, 5, true);
    x.own(1, 60, true);
    Desk.line(x, 1, 2, 3, 1);
    Desk.word(x, 0, 5, 1, 2);
    Desk.word(x, 0, 7, 1, 2);
    Desk.word(x, 1, 9, 1);
    x.both(0, 2, 4);
    x.learn(0, 0, 5);
    x.learn(1, 0, 7);
    x.say(0, true);
    x.say(2, false);
    x.symbols(3);
    x.set(0, 1, 4);
    x.set(1, 1, 2);
    x.set(2, 0, 8);
    x.pair(0, 1, 3);
    Desk.keys(x, 1, 2);
    x.letter(4);
    return x;
  }

  /** Asks both everything; what is told by a call that sets it is asked last. */
  private static void compare(KeyDesk x, KeyDesk y) {
    for (int what = 0; what <= 33; what++) {
      Due.is(x.told(what), y.told(what));
    }
    for (int t = 0; t < 3; t++) {
      Due.is(x.quarrel(t, -1), y.quarrel(t, -1));
      Due.is(x.idle(t, 0), y.idle(t, 0));
      Due.is(x.idle(t, 1), y.idle(t, 1));
      Due.is(x.missing(t, -1), y.missing(t, -1));
      Due.is(x.missing(t, 0), y.missing(t, 0));
    }
    for (int i = -1; i < 6; i++) {
      Due.is(x.stands(i), y.stands(i));
      Due.is(x.piece(i), y.piece(i));
      Due.is(x.chosen(i), y.chosen(i));
    }
    Due.is(x.could(), y.could());
    Due.is(x.product(), y.product());
    for (int w = 0; w < 3; w++) {
      for (int what = 0; what <= 3; what++) {
        Due.is(x.ofWord(w, what), y.ofWord(w, what));
      }
      Due.is(x.ofWord(w, 10), y.ofWord(w, 10));
      Due.is(x.slip(w), y.slip(w));
      Due.is(x.guess(7, 60, w), y.guess(7, 60, w));
      Due.is(x.both(0, w, 1), y.both(0, w, 1));
      for (int hand = 0; hand < 4; hand++) {
        Due.is(x.worth(hand, w, 8), y.worth(hand, w, 8));
      }
    }
    padKeys(x, y);
    padLetters(x, y);
    setters(x, y);
  }

  /** The PAD of KEYS, one by one: a WORD of them tells which they were. */
  private static void padKeys(KeyDesk x, KeyDesk y) {
    int last = x.word(2, 1, 1);
    Due.is(last, y.word(2, 1, 1));
    for (int i = 10; i < 18; i++) {
      Due.is(x.ofWord(last, i), y.ofWord(last, i));
    }
  }

  /** The PAD of LETTERS, one by one: a RULE that makes them tells which they were. */
  private static void padLetters(KeyDesk x, KeyDesk y) {
    for (KeyDesk desk : new KeyDesk[] {x, y}) {
      desk.wipe(0);
      desk.key(11);
      desk.speak(2);
      Desk.line(desk, 11);
    }
    Due.is(x.rule(2), y.rule(2));
    for (int i = -1; i < 3; i++) {
      Due.is(x.stands(i), y.stands(i));
    }
  }

  private static void setters(KeyDesk x, KeyDesk y) {
    for (int which = 0; which <= 5; which++) {
      Due.is(x.price(which, 1), y.price(which, 1));
    }
    Due.is(x.fade(1), y.fade(1));
    Due.is(x.seed(1), y.seed(1));
    Due.is(x.same(1), y.same(1));
    for (int a = 0; a < x.told(8); a++) {
      for (int what = 0; what <= 2; what++) {
        Due.is(x.set(what, a, 1), y.set(what, a, 1));
      }
      for (int b = 0; b < x.told(8); b++) {
        Due.is(x.pair(a, b, 1), y.pair(a, b, 1));
      }
    }
    for (int l = 1; l <= 60; l++) {
      Due.is(x.own(0, l, false), y.own(0, l, false));
    }
  }
}
