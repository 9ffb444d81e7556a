/** The boundary cases of the promises 8 to 13: reading, taking out, the limit and the way. */
final class TakingOutBounds {
  private TakingOutBounds() {}

  @Says("Returns the value of a key; its entry is not touched.")
  static void promise08NotTouched(Checks c) {
    for (int key = 1; key <= 3; key++) {
      int asked = key;
      c.due("look(" + key + ")", Books.of(1, 2, 3).look(key), 10 * key);
      Books.dueUnchanged(c, "look(" + key + ")", () -> Books.of(1, 2, 3), x -> x.look(asked));
    }
    Books.dueUnchanged(
        c, "look(1) on a walk", () -> Books.walked(Books.of(1, 2), 'a', 1), x -> x.look(1));
  }

  @Says("`key`: the key")
  static void promise08LeastAndGreatestKey(Checks c) {
    c.due("look(0)", Books.of(0, 99).look(0), 0);
    c.due("look(99)", Books.of(0, 99).look(99), 990);
  }

  @Says("Returns the value.")
  static void promise08LeastAndGreatestValue(Checks c) {
    Twicebook x = Books.of(1);
    for (int value : Books.EDGE_VALUES) {
      x.setAt('a', 0, value);
      c.due("look(1)", x.look(1), value);
    }
  }

  @Says("Throws `NoSuchElementException` if the key is not there")
  static void promise08KeyNotThere(Checks c) {
    for (int key : Books.ABSENT_KEYS) {
      Books.dueRefused(c, "look(" + key + ")", Books.ABSENT, x -> x.look(key));
    }
    Twicebook x = Books.of(1, 2);
    x.remove(1);
    c.dueThrow("look(1) once it is out", Books.ABSENT, () -> x.look(1));
  }

  @Says("Tells whether a key is there; its entry is not touched.")
  static void promise09NotTouched(Checks c) {
    Books.dueUnchanged(c, "has(1)", () -> Books.of(1, 2, 3), x -> x.has(1));
    Books.dueUnchanged(
        c, "has(1) on a walk", () -> Books.walked(Books.of(1, 2), 'a', 1), x -> x.has(1));
  }

  @Says("`key`: the key")
  static void promise09LeastAndGreatestKey(Checks c) {
    Twicebook x = Books.of(0, 99);
    c.due("has(0)", x.has(0), true);
    c.due("has(99)", x.has(99), true);
    c.due("has(1)", x.has(1), false);
    c.due("has(98)", x.has(98), false);
  }

  @Says("Returns whether it is.")
  static void promise09KeyNotThere(Checks c) {
    for (int key : Books.ABSENT_KEYS) {
      Books.dueQuiet(c, "has(" + key + ")", false, x -> x.has(key));
    }
    Twicebook x = Books.of(0, 1);
    x.remove(0);
    c.due("has(0) once it is out", x.has(0), false);
    x.undo();
    c.due("has(0) once that is undone", x.has(0), true);
  }

  @Says("Takes the entry of a key out.")
  static void promise10FirstMiddleLastAndOnly(Checks c) {
    String[] others = {"2 3", "1 3", "1 2"};
    for (int key = 1; key <= 3; key++) {
      Twicebook x = Books.of(1, 2, 3);
      c.due("remove(" + key + ")", x.remove(key), 10 * key);
      Books.dueOrders(c, "remove(" + key + ")", x, others[key - 1], others[key - 1]);
    }
    Twicebook only = Books.of(1);
    c.due("remove(1), the only one", only.remove(1), 10);
    c.due("size()", only.size(), 0);
    c.due("isTrue()", only.isTrue(), true);
  }

  @Says("Takes the entry of a key out.")
  static void promise10OneMoreThenComesInWithoutAnotherGoing(Checks c) {
    Twicebook x = Books.ofTwelve();
    x.remove(11);
    c.due("put(12, 0)", x.put(12, 0), -1);
    c.due("put(13, 0)", x.put(13, 0), 0);
  }

  @Says("`key`: the key")
  static void promise10LeastAndGreatestKey(Checks c) {
    c.due("remove(0)", Books.of(0, 99).remove(0), 0);
    c.due("remove(99)", Books.of(0, 99).remove(99), 990);
  }

  @Says("Returns the value that it had.")
  static void promise10LeastAndGreatestValue(Checks c) {
    for (int value : Books.EDGE_VALUES) {
      Twicebook x = new Twicebook();
      x.put(1, value);
      c.due("remove(1)", x.remove(1), value);
    }
  }

  @Says("Throws `NoSuchElementException` if the key is not there")
  static void promise10KeyNotThere(Checks c) {
    for (int key : Books.ABSENT_KEYS) {
      Books.dueRefused(c, "remove(" + key + ")", Books.ABSENT, x -> x.remove(key));
    }
    Twicebook x = Books.of(1, 2);
    x.remove(1);
    c.dueThrow("remove(1) again", Books.ABSENT, () -> x.remove(1));
  }

  @Says("Returns how many entries there are.")
  static void promise11FromNoneToTwelveAndBack(Checks c) {
    Twicebook x = Books.of();
    for (int key = 0; key < 12; key++) {
      c.due("size()", x.size(), key);
      x.put(key, 0);
    }
    c.due("size() when full", x.size(), 12);
    x.put(0, 1);
    c.due("size() behind a touch", x.size(), 12);
    x.put(12, 1);
    c.due("size() behind one more", x.size(), 12);
    for (int left = 11; left >= 0; left--) {
      x.removeAt('a', 0);
      c.due("size()", x.size(), left);
    }
  }

  @Says("Returns how many.")
  static void promise11NeverMoreThanEachLimit(Checks c) {
    for (int most = 1; most <= 12; most++) {
      Twicebook x = new Twicebook();
      x.limit(most);
      for (int key = 0; key < 20; key++) {
        x.put(key, 0);
        c.due("size() at the limit " + most, x.size(), Math.min(key + 1, most));
      }
    }
    Books.dueUnchanged(
        c, "size()", () -> Books.walked(Books.of(1, 2), 'a', 1), Twicebook::size);
  }

  @Says(
      "Tells the limit; as long as there are more entries than it, the first one of the order"
          + " of the way goes.")
  static void promise12AsManyOneMoreAndAllButOne(Checks c) {
    Twicebook many = Books.ofTwelve();
    c.due("limit(12), as many", many.limit(12), 0);
    c.due("limit(11), one more", many.limit(11), 1);
    c.due("has(0)", many.has(0), false);
    c.due("limit(1), ten more", many.limit(1), 10);
    Books.dueOrders(c, "limit(1)", many, "11", "11");
    Twicebook byAsking = Books.asked(Books.ofTwelve(), 0, 5);
    byAsking.way('a');
    c.due("limit(2) by asking", byAsking.limit(2), 10);
    Books.dueOrders(c, "limit(2) by asking", byAsking, "0 5", "0 5");
    c.due("limit(1) by asking", byAsking.limit(1), 1);
    Books.dueOrders(c, "limit(1) by asking", byAsking, "5", "5");
  }

  @Says("Tells the limit")
  static void promise12OfNoneAndTheSameAndMore(Checks c) {
    Twicebook x = new Twicebook();
    c.due("limit(1) of none", x.limit(1), 0);
    c.due("limit(1) again", x.limit(1), 0);
    x.put(1, 0);
    c.due("limit(2)", x.limit(2), 0);
    c.due("put(2, 0)", x.put(2, 0), -1);
    c.due("put(3, 0)", x.put(3, 0), 1);
    Books.dueChange(c, "the same limit", () -> Books.of(1, 2, 3), y -> y.limit(12));
  }

  @Says("`most`: 1 to 12")
  static void promise12EachLimitOfTheRange(Checks c) {
    for (int most = 1; most <= 12; most++) {
      Twicebook x = Books.ofTwelve();
      c.due("limit(" + most + ")", x.limit(most), 12 - most);
      c.due("size()", x.size(), most);
      c.due("the limit and the way", Books.limitAndWay(x), "limit " + most + ", way c");
    }
  }

  @Says("Returns how many go.")
  static void promise12AllThatGoAreOneChange(Checks c) {
    Twicebook x = Books.ofTwelve();
    c.due("limit(1)", x.limit(1), 11);
    c.due("undo()", x.undo(), 7);
    c.due("size()", x.size(), 12);
  }

  @Says("Throws `IllegalArgumentException` if it is out of range")
  static void promise12TooSmallAndTooLarge(Checks c) {
    for (int most : Books.NO_LIMITS) {
      Books.dueRefused(c, "limit(" + most + ")", Books.ILLEGAL, x -> x.limit(most));
    }
  }

  @Says("Tells the way in which eldest entries go.")
  static void promise13NoneGoesAsItIsTold(Checks c) {
    Twicebook x = Books.asked(Books.of(1, 2, 3), 1);
    x.limit(3);
    x.way('a');
    Books.dueOrders(c, "way('a') when full", x, "1 2 3", "2 3 1");
    c.due("put(4, 0)", x.put(4, 0), 2);
    x.way('c');
    c.due("put(5, 0)", x.put(5, 0), 1);
    Books.dueChange(c, "the same way", () -> Books.of(1, 2, 3), y -> y.way('c'));
  }

  @Says("`way`: 'c' or 'a'")
  static void promise13BothWaysOfANewBook(Checks c) {
    c.due("way('c')", new Twicebook().way('c'), 'c');
    c.due("way('a')", new Twicebook().way('a'), 'c');
  }

  @Says("Returns the one before.")
  static void promise13TheOneBeforeAlsoTheSameOrUndone(Checks c) {
    Twicebook x = new Twicebook();
    c.due("way('a')", x.way('a'), 'c');
    c.due("way('a') again", x.way('a'), 'a');
    c.due("way('c')", x.way('c'), 'a');
    c.due("way('c') again", x.way('c'), 'c');
    x.way('a');
    x.undo();
    c.due("way('a') behind undo()", x.way('a'), 'c');
  }

  @Says("Throws `IllegalArgumentException` if there is no such way")
  static void promise13NoSuchWay(Checks c) {
    for (char way : Books.NO_ORDERS) {
      Books.dueRefused(c, "way(" + (int) way + ")", Books.ILLEGAL, x -> x.way(way));
    }
  }
}
