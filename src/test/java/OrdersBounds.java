/** The boundary cases of the promises 14 to 18: the calls that name a place in an order. */
final class OrdersBounds {
  private static final int[] NO_PLACES = {-1, -2, 12, 13, 65536, Books.LEAST, Books.GREATEST};

  private OrdersBounds() {}

  /** The order of coming is 5 6 7, that of asking 6 7 5. */
  private static Twicebook three() {
    return Books.asked(Books.of(5, 6, 7), 5);
  }

  @Says({
    "Returns the key at a place.",
    "`place`: the place",
  })
  static void promise14FirstLastAndOnlyPlace(Checks c) {
    c.due("keyAt('c', 0)", three().keyAt('c', 0), 5);
    c.due("keyAt('c', 2)", three().keyAt('c', 2), 7);
    c.due("keyAt('a', 0)", three().keyAt('a', 0), 6);
    c.due("keyAt('a', 2)", three().keyAt('a', 2), 5);
    c.due("keyAt('a', 0), the only one", Books.of(9).keyAt('a', 0), 9);
    c.due("keyAt('c', 11), the last of twelve", Books.ofTwelve().keyAt('c', 11), 11);
    c.due("keyAt('a', 11), the last of twelve", Books.ofTwelve().keyAt('a', 11), 11);
  }

  @Says("Returns the key.")
  static void promise14LeastAndGreatestKeyUntouched(Checks c) {
    c.due("keyAt('c', 0)", Books.of(0, 99).keyAt('c', 0), 0);
    c.due("keyAt('a', 1)", Books.of(0, 99).keyAt('a', 1), 99);
    Books.dueUnchanged(
        c, "keyAt", () -> Books.walked(three(), 'a', 1), x -> x.keyAt('a', 0));
  }

  @Says({"`order`: 'c' or 'a'", "Throws `IllegalArgumentException` if there is no such order"})
  static void promise14NoSuchOrder(Checks c) {
    for (char order : Books.NO_ORDERS) {
      String call = "keyAt(" + (int) order + ", ";
      Books.dueRefused(c, call + "0)", Books.ILLEGAL, x -> x.keyAt(order, 0));
      Books.dueRefused(c, call + "-1)", Books.ILLEGAL, x -> x.keyAt(order, -1));
      Books.dueRefused(c, call + "12)", Books.ILLEGAL, x -> x.keyAt(order, 12));
    }
  }

  @Says("Throws `IndexOutOfBoundsException` if there is no such place")
  static void promise14PlaceTooSmallAndTooLarge(Checks c) {
    for (char order : Books.ORDERS) {
      for (int place : NO_PLACES) {
        String call = "keyAt(" + order + ", " + place + ")";
        Books.dueRefused(c, call, Books.BOUNDS, x -> x.keyAt(order, place));
      }
      dueNoPlaceBehindTheLast(c, "keyAt", order, x -> x.keyAt(order, x.size()));
    }
  }

  /** The first place behind the entries, in each of the states, that of no entries too. */
  private static void dueNoPlaceBehindTheLast(Checks c, String name, char order, Books.Call call) {
    Books.dueRefused(c, name + "(" + order + ", size())", Books.BOUNDS, call);
  }

  @Says("Returns the place of a key.")
  static void promise15FirstLastAndOnlyPlace(Checks c) {
    c.due("placeOf('c', 5)", three().placeOf('c', 5), 0);
    c.due("placeOf('c', 7)", three().placeOf('c', 7), 2);
    c.due("placeOf('a', 6)", three().placeOf('a', 6), 0);
    c.due("placeOf('a', 5)", three().placeOf('a', 5), 2);
    c.due("placeOf('a', 9), the only one", Books.of(9).placeOf('a', 9), 0);
    c.due("placeOf('c', 11), the last of twelve", Books.ofTwelve().placeOf('c', 11), 11);
  }

  @Says({
    "Returns the place.",
    "`key`: the key",
  })
  static void promise15LeastAndGreatestKeyUntouched(Checks c) {
    c.due("placeOf('c', 99)", Books.of(99, 0).placeOf('c', 99), 0);
    c.due("placeOf('a', 0)", Books.of(99, 0).placeOf('a', 0), 1);
    Books.dueUnchanged(
        c, "placeOf", () -> Books.walked(three(), 'a', 1), x -> x.placeOf('a', 6));
  }

  @Says({"`order`: 'c' or 'a'", "Throws `IllegalArgumentException` if there is no such order"})
  static void promise15NoSuchOrder(Checks c) {
    for (char order : Books.NO_ORDERS) {
      String call = "placeOf(" + (int) order + ", ";
      Books.dueRefused(c, call + "1)", Books.ILLEGAL, x -> x.placeOf(order, 1));
      Books.dueRefused(c, call + "50)", Books.ILLEGAL, x -> x.placeOf(order, 50));
    }
  }

  @Says("Throws `NoSuchElementException` if the key is not there")
  static void promise15KeyNotThere(Checks c) {
    for (char order : Books.ORDERS) {
      for (int key : Books.ABSENT_KEYS) {
        String call = "placeOf(" + order + ", " + key + ")";
        Books.dueRefused(c, call, Books.ABSENT, x -> x.placeOf(order, key));
      }
      Twicebook x = three();
      x.remove(5);
      c.dueThrow("placeOf of 5 once it is out", Books.ABSENT, () -> x.placeOf(order, 5));
    }
  }

  @Says({
    "Gives the entry at a place another value, on the way over the entries; it is not touched.",
    "`place`: the place",
  })
  static void promise16FirstAndLastPlaceUntouched(Checks c) {
    String[] values = {"50", "60", "70"};
    for (char order : Books.ORDERS) {
      for (int place = 0; place < 3; place++) {
        Twicebook x = three();
        int key = x.keyAt(order, place);
        c.due("setAt(" + order + ", " + place + ", 1)", x.setAt(order, place, 1), 10 * key);
        String[] due = values.clone();
        due[key - 5] = "1";
        c.due("the values behind it", values(x), String.join(" ", due));
        Books.dueOrders(c, "behind it", x, "5 6 7", "6 7 5");
        c.due("isTrue()", x.isTrue(), true);
      }
    }
    c.due("setAt('a', 11, 1) of twelve", Books.ofTwelve().setAt('a', 11, 1), 110);
  }

  private static String values(Twicebook x) {
    return x.look(5) + " " + x.look(6) + " " + x.look(7);
  }

  @Says("`value`: the value")
  static void promise16TheSameValueIsAChange(Checks c) {
    for (char order : Books.ORDERS) {
      for (int place = 0; place < 3; place++) {
        int at = place;
        int value = 10 * three().keyAt(order, place);
        Books.dueChange(c, "setAt", OrdersBounds::three, x -> x.setAt(order, at, value));
      }
    }
  }

  @Says("Returns the value that it had.")
  static void promise16LeastAndGreatestValue(Checks c) {
    Twicebook x = Books.of(0);
    int before = 0;
    for (int value : Books.EDGE_VALUES) {
      c.due("setAt('c', 0, " + value + ")", x.setAt('c', 0, value), before);
      c.due("setAt('a', 0, " + value + ")", x.setAt('a', 0, value), value);
      c.due("look(0)", x.look(0), value);
      before = value;
    }
  }

  @Says({"`order`: 'c' or 'a'", "Throws `IllegalArgumentException` if there is no such order"})
  static void promise16NoSuchOrder(Checks c) {
    for (char order : Books.NO_ORDERS) {
      String call = "setAt(" + (int) order + ", ";
      Books.dueRefused(c, call + "0, 1)", Books.ILLEGAL, x -> x.setAt(order, 0, 1));
      Books.dueRefused(c, call + "-1, 1)", Books.ILLEGAL, x -> x.setAt(order, -1, 1));
      Books.dueRefused(c, call + "12, 1)", Books.ILLEGAL, x -> x.setAt(order, 12, 1));
    }
  }

  @Says("Throws `IndexOutOfBoundsException` if there is no such place")
  static void promise16PlaceTooSmallAndTooLarge(Checks c) {
    for (char order : Books.ORDERS) {
      for (int place : NO_PLACES) {
        String call = "setAt(" + order + ", " + place + ", 1)";
        Books.dueRefused(c, call, Books.BOUNDS, x -> x.setAt(order, place, 1));
      }
      dueNoPlaceBehindTheLast(c, "setAt", order, x -> x.setAt(order, x.size(), 1));
    }
  }

  @Says({
    "Takes the entry at a place out, on the way over the entries.",
    "`place`: the place",
  })
  static void promise17FirstLastAndOnlyPlace(Checks c) {
    String[] comings = {"6 7", "5 7", "5 6"};
    String[] askings = {"6 7", "7 5", "6 5"};
    for (char order : Books.ORDERS) {
      for (int place = 0; place < 3; place++) {
        Twicebook x = three();
        int key = x.keyAt(order, place);
        c.due("removeAt(" + order + ", " + place + ")", x.removeAt(order, place), key);
        Books.dueOrders(c, key + " taken out", x, comings[key - 5], askings[key - 5]);
      }
      Twicebook only = Books.of(9);
      c.due("removeAt(" + order + ", 0), the only one", only.removeAt(order, 0), 9);
      c.due("size()", only.size(), 0);
    }
  }

  @Says("Returns its key.")
  static void promise17LeastAndGreatestKeyAndTheLastOfTwelve(Checks c) {
    c.due("removeAt('c', 0)", Books.of(0, 99).removeAt('c', 0), 0);
    c.due("removeAt('a', 1)", Books.of(0, 99).removeAt('a', 1), 99);
    c.due("removeAt('c', 11)", Books.ofTwelve().removeAt('c', 11), 11);
    c.due("removeAt('a', 11)", Books.ofTwelve().removeAt('a', 11), 11);
  }

  @Says({"`order`: 'c' or 'a'", "Throws `IllegalArgumentException` if there is no such order"})
  static void promise17NoSuchOrder(Checks c) {
    for (char order : Books.NO_ORDERS) {
      String call = "removeAt(" + (int) order + ", ";
      Books.dueRefused(c, call + "0)", Books.ILLEGAL, x -> x.removeAt(order, 0));
      Books.dueRefused(c, call + "-1)", Books.ILLEGAL, x -> x.removeAt(order, -1));
      Books.dueRefused(c, call + "12)", Books.ILLEGAL, x -> x.removeAt(order, 12));
    }
  }

  @Says("Throws `IndexOutOfBoundsException` if there is no such place")
  static void promise17PlaceTooSmallAndTooLarge(Checks c) {
    for (char order : Books.ORDERS) {
      for (int place : NO_PLACES) {
        String call = "removeAt(" + order + ", " + place + ")";
        Books.dueRefused(c, call, Books.BOUNDS, x -> x.removeAt(order, place));
      }
      dueNoPlaceBehindTheLast(c, "removeAt", order, x -> x.removeAt(order, x.size()));
    }
  }

  @Says("those at the places each less 1, twice each less 1, and so on")
  static void promise18EachNumberOverTwelveEntries(Checks c) {
    String[] left = {
      "", "0 2 4 6 8 10", "0 1 3 4 6 7 9 10", "0 1 2 4 5 6 8 9 10", "0 1 2 3 5 6 7 8 10 11",
      "0 1 2 3 4 6 7 8 9 10", "0 1 2 3 4 5 7 8 9 10 11", "0 1 2 3 4 5 6 8 9 10 11",
      "0 1 2 3 4 5 6 7 9 10 11", "0 1 2 3 4 5 6 7 8 10 11", "0 1 2 3 4 5 6 7 8 9 11",
      "0 1 2 3 4 5 6 7 8 9 10",
    };
    for (char order : Books.ORDERS) {
      for (int each = 1; each <= 12; each++) {
        Twicebook x = Books.ofTwelve();
        c.due("thin(" + order + ", " + each + ")", x.thin(order, each), 12 / each);
        Books.dueOrders(c, "behind it", x, left[each - 1], left[each - 1]);
      }
    }
  }

  @Says("as they were numbered before")
  static void promise18AsTheyWereNumberedBefore(Checks c) {
    Twicebook x = Books.asked(Books.of(1, 2, 3, 4, 5, 6), 1, 2);
    c.due("thin('a', 2) of 3 4 5 6 1 2", x.thin('a', 2), 3);
    Books.dueOrders(c, "4, 6 and 2 are out", x, "1 3 5", "3 5 1");
    Twicebook y = Books.asked(Books.of(1, 2, 3, 4, 5, 6), 1, 2);
    c.due("thin('c', 2)", y.thin('c', 2), 3);
    Books.dueOrders(c, "2, 4 and 6 are out", y, "1 3 5", "3 5 1");
    Twicebook z = Books.asked(Books.of(1, 2, 3, 4, 5), 1);
    c.due("thin('a', 2) of 2 3 4 5 1", z.thin('a', 2), 2);
    Books.dueOrders(c, "3 and 5 are out", z, "1 2 4", "2 4 1");
  }

  @Says("if none is taken out, nothing changes")
  static void promise18NoneTakenOutChangesNothing(Checks c) {
    for (char order : Books.ORDERS) {
      for (int size = 0; size < 12; size++) {
        int[] keys = new int[size];
        for (int key = 0; key < size; key++) {
          keys[key] = key;
        }
        int each = size + 1;
        int steps = size / 2;
        String call = "thin(" + order + ", " + each + ") of " + size;
        c.due(call, Books.of(keys).thin(order, each), 0);
        Books.dueUnchanged(
            c, call, () -> Books.walked(Books.of(keys), order, steps),
            x -> x.thin(order, each));
      }
      Books.dueUnchanged(c, "thin of a new book", Twicebook::new, x -> x.thin(order, 1));
    }
  }

  @Says("`each`: 1 to 12")
  static void promise18LeastAndGreatestNumber(Checks c) {
    for (char order : Books.ORDERS) {
      c.due("thin(" + order + ", 1) of none", new Twicebook().thin(order, 1), 0);
      c.due("thin(" + order + ", 12) of none", new Twicebook().thin(order, 12), 0);
      c.due("thin(" + order + ", 1) of one", Books.of(5).thin(order, 1), 1);
      c.due("thin(" + order + ", 12) of one", Books.of(5).thin(order, 12), 0);
    }
  }

  @Says("Returns how many are taken out.")
  static void promise18AllThatAreTakenOutAreOneChange(Checks c) {
    Twicebook x = Books.ofTwelve();
    c.due("thin('a', 1)", x.thin('a', 1), 12);
    c.due("size()", x.size(), 0);
    c.due("undo()", x.undo(), 7);
    c.due("size() behind undo()", x.size(), 12);
  }

  @Says({
    "`order`: 'c' or 'a'",
    "Throws `IllegalArgumentException` if there is no such order, or the number is out of range",
  })
  static void promise18NoSuchOrderOrNumber(Checks c) {
    for (char order : Books.NO_ORDERS) {
      String call = "thin(" + (int) order + ", ";
      Books.dueRefused(c, call + "1)", Books.ILLEGAL, x -> x.thin(order, 1));
      Books.dueRefused(c, call + "12)", Books.ILLEGAL, x -> x.thin(order, 12));
      Books.dueRefused(c, call + "0)", Books.ILLEGAL, x -> x.thin(order, 0));
    }
    for (char order : Books.ORDERS) {
      for (int each : Books.NO_LIMITS) {
        String call = "thin(" + order + ", " + each + ")";
        Books.dueRefused(c, call, Books.ILLEGAL, x -> x.thin(order, each));
      }
    }
  }
}
