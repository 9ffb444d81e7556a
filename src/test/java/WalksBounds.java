import java.util.function.Supplier;

/** The boundary cases of the promises 19 to 21: a walk, its steps, and what it cuts. */
final class WalksBounds {
  private static final String OVER = " throws.NoSuchElementException\n";

  private WalksBounds() {}

  /** The order of coming is 1 2 3, that of asking 2 3 1. */
  private static Twicebook three() {
    return Books.asked(Books.of(1, 2, 3), 1);
  }

  private static void dueWalk(Checks c, String what, Twicebook x, String steps) {
    c.due(what, Books.restOfWalk(x), "steps" + steps + OVER);
  }

  @Says("Begins a walk, ahead of the first entry of an order")
  static void promise19AheadOfTheFirstOfEachOrder(Checks c) {
    dueWalk(c, "by coming", Books.walked(three(), 'c', 0), " 1 2 3");
    dueWalk(c, "by asking", Books.walked(three(), 'a', 0), " 2 3 1");
    dueWalk(c, "of one", Books.walked(Books.of(0), 'a', 0), " 0");
    dueWalk(c, "of none", Books.walked(new Twicebook(), 'c', 0), "");
    Twicebook x = Books.walked(new Twicebook(), 'a', 0);
    c.dueThrow("cut() of a walk of none", Books.STATE, x::cut);
  }

  @Says("one that there was is over")
  static void promise19TheOneBeforeIsOver(Checks c) {
    for (char first : Books.ORDERS) {
      Twicebook x = Books.walked(three(), first, 2);
      x.walk('c');
      c.dueThrow("cut() behind walk('c')", Books.STATE, x::cut);
      dueWalk(c, "by coming", x, " 1 2 3");
      x.walk('a');
      c.dueThrow("cut() behind walk('a')", Books.STATE, x::cut);
      dueWalk(c, "by asking", x, " 2 3 1");
    }
  }

  @Says("Begins a walk")
  static void promise19IsNoChange(Checks c) {
    c.due("checksum()", Books.walked(three(), 'a', 0).checksum(), three().checksum());
    c.due("the past", Books.past(Books.walked(three(), 'a', 0)), Books.past(three()));
  }

  @Says("Returns how many entries are ahead of it.")
  static void promise19AheadFromNoneToTwelve(Checks c) {
    for (char order : Books.ORDERS) {
      c.due("walk(" + order + ") of none", new Twicebook().walk(order), 0);
      Twicebook x = Books.of();
      for (int key = 0; key < 12; key++) {
        x.put(key, 0);
        c.due("walk(" + order + ")", x.walk(order), key + 1);
      }
      x.step();
      c.due("walk(" + order + ") behind a step", x.walk(order), 12);
    }
  }

  @Says({"`order`: 'c' or 'a'", "Throws `IllegalArgumentException` if there is no such order"})
  static void promise19NoSuchOrder(Checks c) {
    for (char order : Books.NO_ORDERS) {
      Books.dueRefused(c, "walk(" + (int) order + ")", Books.ILLEGAL, x -> x.walk(order));
    }
  }

  @Says("Lets the walk go over the next entry.")
  static void promise20FromTheFirstToTheLastOfTwelve(Checks c) {
    Twicebook x = Books.asked(Books.ofTwelve(), 0);
    x.walk('a');
    for (int key = 1; key < 12; key++) {
      c.due("step()", x.step(), key);
    }
    c.due("step(), the twelfth", x.step(), 0);
    c.dueThrow("step(), the thirteenth", Books.ABSENT, x::step);
  }

  @Says("Returns its key.")
  static void promise20LeastAndGreatestKeyUntouched(Checks c) {
    Twicebook x = Books.walked(Books.of(0, 99), 'a', 0);
    c.due("step()", x.step(), 0);
    c.due("step()", x.step(), 99);
    Books.dueOrders(c, "behind the steps", x, "0 99", "0 99");
    c.due("the past", Books.past(x), Books.past(Books.of(0, 99)));
  }

  @Says("Throws `IllegalStateException` if there is no walk")
  static void promise20NoWalk(Checks c) {
    Books.dueRefusedOn(c, "step() of none", Twicebook::new, Books.STATE, Twicebook::step);
    Books.dueRefusedOn(c, "step() of three", WalksBounds::three, Books.STATE, Twicebook::step);
    Supplier<Twicebook> over = () -> Books.asked(Books.walked(three(), 'c', 3), 1);
    Books.dueRefusedOn(c, "step() once it is over", over, Books.STATE, Twicebook::step);
  }

  @Says("Throws `NoSuchElementException` if it has gone over all")
  static void promise20GoneOverAll(Checks c) {
    Supplier<Twicebook> none = () -> Books.walked(new Twicebook(), 'a', 0);
    Books.dueRefusedOn(c, "step() over none", none, Books.ABSENT, Twicebook::step);
    Supplier<Twicebook> one = () -> Books.walked(Books.of(0), 'c', 1);
    Books.dueRefusedOn(c, "step() over one", one, Books.ABSENT, Twicebook::step);
    Supplier<Twicebook> three = () -> Books.walked(three(), 'a', 3);
    Books.dueRefusedOn(c, "step() over three", three, Books.ABSENT, Twicebook::step);
    Twicebook x = three.get();
    c.dueThrow("step()", Books.ABSENT, x::step);
    c.dueThrow("step() again", Books.ABSENT, x::step);
    c.due("cut() behind it", x.cut(), 2);
    c.due("has(1), the one that was cut", x.has(1), false);
  }

  @Says("Takes the entry that the walk went over last out")
  static void promise21FirstMiddleLastAndOnly(Checks c) {
    String[] comings = {"1 3", "1 2", "2 3"};
    String[] askings = {"3 1", "2 1", "2 3"};
    for (int steps = 1; steps <= 3; steps++) {
      Twicebook x = Books.walked(three(), 'a', steps);
      c.due("cut() behind " + steps + " steps", x.cut(), 2);
      Books.dueOrders(c, "behind it", x, comings[steps - 1], askings[steps - 1]);
    }
    Twicebook only = Books.walked(Books.of(0), 'c', 1);
    c.due("cut() of the only one", only.cut(), 0);
    c.dueThrow("step() behind it", Books.ABSENT, only::step);
    c.due("size()", only.size(), 0);
  }

  @Says("the walk goes on behind it")
  static void promise21GoesOnBehindFirstMiddleAndLast(Checks c) {
    String[] rests = {" 3 1", " 1", ""};
    for (int steps = 1; steps <= 3; steps++) {
      Twicebook x = Books.walked(three(), 'a', steps);
      x.cut();
      dueWalk(c, "the walk behind a cut", x, rests[steps - 1]);
    }
    Twicebook twice = Books.walked(three(), 'c', 2);
    twice.cut();
    c.due("step()", twice.step(), 3);
    c.due("cut() of the next one", twice.cut(), 1);
    c.dueThrow("step()", Books.ABSENT, twice::step);
    Books.dueOrders(c, "2 and 3 are out", twice, "1", "1");
  }

  @Says("Returns how many entries there are then.")
  static void promise21FromTwelveToNone(Checks c) {
    for (char order : Books.ORDERS) {
      Twicebook x = Books.walked(Books.asked(Books.ofTwelve(), 3), order, 0);
      for (int left = 11; left >= 0; left--) {
        x.step();
        c.due("cut()", x.cut(), left);
      }
      c.dueThrow("step() of none", Books.ABSENT, x::step);
      c.dueThrow("cut() of none", Books.STATE, x::cut);
      c.due("undo(), for eight are kept", x.undo(), 7);
      c.due("size()", x.size(), 1);
    }
  }

  @Says("Throws `IllegalStateException` if there is no walk")
  static void promise21NoWalk(Checks c) {
    Books.dueRefusedOn(c, "cut() of none", Twicebook::new, Books.STATE, Twicebook::cut);
    Books.dueRefusedOn(c, "cut() of three", WalksBounds::three, Books.STATE, Twicebook::cut);
    Supplier<Twicebook> over = () -> Books.asked(Books.walked(three(), 'c', 2), 1);
    Books.dueRefusedOn(c, "cut() once it is over", over, Books.STATE, Twicebook::cut);
  }

  @Says("or it has not gone over an entry since it began")
  static void promise21NotGoneOverAnEntrySinceItBegan(Checks c) {
    Supplier<Twicebook> begun = () -> Books.walked(three(), 'a', 0);
    Books.dueRefusedOn(c, "cut() at once", begun, Books.STATE, Twicebook::cut);
    Supplier<Twicebook> anew = () -> Books.walked(Books.walked(three(), 'c', 2), 'a', 0);
    Books.dueRefusedOn(c, "cut() of a walk begun anew", anew, Books.STATE, Twicebook::cut);
    Twicebook none = Books.walked(new Twicebook(), 'c', 0);
    c.dueThrow("step()", Books.ABSENT, none::step);
    c.dueThrow("cut() behind a step that was refused", Books.STATE, none::cut);
  }

  @Says("or since the last one was taken out so")
  static void promise21NotGoneOverAnEntrySinceTheLastCut(Checks c) {
    for (int steps = 1; steps <= 3; steps++) {
      int count = steps;
      Supplier<Twicebook> twice =
          () -> {
            Twicebook x = Books.walked(three(), 'a', count);
            x.cut();
            return x;
          };
      Books.dueRefusedOn(c, "cut() twice", twice, Books.STATE, Twicebook::cut);
    }
    Twicebook all = Books.walked(three(), 'c', 3);
    all.cut();
    c.dueThrow("step()", Books.ABSENT, all::step);
    c.dueThrow("cut() behind a step that was refused", Books.STATE, all::cut);
  }

  @Says("Takes the entry that the walk went over last out")
  static void promise21IsAChangeThatIsKept(Checks c) {
    Twicebook x = Books.walked(three(), 'a', 2);
    x.cut();
    c.due("undo()", x.undo(), 5);
    Books.dueOrders(c, "behind undo()", x, "1 2 3", "2 3 1");
    c.due("look(3)", x.look(3), 30);
    c.dueThrow("cut(), for the walk is over", Books.STATE, x::cut);
  }
}
