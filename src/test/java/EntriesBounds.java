/** The boundary cases of the promises 1 to 7: a new object, and the calls that touch an entry. */
final class EntriesBounds {
  private EntriesBounds() {}

  @Says("Creates a book without entries")
  static void promise01WithoutEntries(Checks c) {
    Twicebook x = new Twicebook();
    c.due("size()", x.size(), 0);
    c.due("moves()", x.moves(), 0);
    c.due("crossings()", x.crossings(), 0);
    c.due("isTrue()", x.isTrue(), true);
    for (int key = 0; key <= 99; key++) {
      c.due("has(" + key + ")", x.has(key), false);
    }
    c.dueThrow("keyAt('c', 0)", Books.BOUNDS, () -> x.keyAt('c', 0));
    c.dueThrow("keyAt('a', 0)", Books.BOUNDS, () -> x.keyAt('a', 0));
    c.dueThrow("move(0)", Books.BOUNDS, () -> x.move(0));
    c.dueThrow("undo()", Books.ABSENT, x::undo);
    c.dueThrow("step()", Books.STATE, x::step);
  }

  @Says("of the limit 8 and the way 'c'")
  static void promise01OfTheLimitEightByComing(Checks c) {
    Twicebook x = new Twicebook();
    for (int key = 0; key < 8; key++) {
      c.due("put(" + key + ", 0)", x.put(key, 0), -1);
    }
    x.get(0);
    c.due("put(8, 0), the ninth", x.put(8, 0), 0);
    c.due("way('c')", x.way('c'), 'c');
  }

  @Says("Creates a book")
  static void promise01ApartFromOtherBooks(Checks c) {
    Twicebook one = new Twicebook();
    Twicebook other = new Twicebook();
    long first = other.checksum();
    one.limit(3);
    one.way('a');
    one.put(1, 1);
    one.walk('c');
    c.due("checksum() of another one", other.checksum(), first);
    c.dueThrow("step() of another one", Books.STATE, other::step);
    c.due("checksum() of a later one", new Twicebook().checksum(), first);
  }

  @Says("if it is there, its entry gets the value and is touched")
  static void promise02FirstMiddleLastAndOnly(Checks c) {
    String[] askings = {"2 3 1", "1 3 2", "1 2 3"};
    for (int key = 1; key <= 3; key++) {
      Twicebook x = Books.of(1, 2, 3);
      c.due("put(" + key + ", 5)", x.put(key, 5), -1);
      c.due("look(" + key + ")", x.look(key), 5);
      Books.dueOrders(c, "put(" + key + ", 5)", x, "1 2 3", askings[key - 1]);
    }
    Twicebook only = Books.of(1);
    c.due("put(1, 5), the only one", only.put(1, 5), -1);
    c.due("look(1)", only.look(1), 5);
  }

  @Says("otherwise an entry comes in")
  static void promise02ComesInToNoneAndToTwelve(Checks c) {
    Twicebook none = new Twicebook();
    none.put(0, 5);
    Books.dueOrders(c, "the first", none, "0", "0");
    Twicebook full = Books.asked(Books.ofTwelve(), 0);
    c.due("put(99, 5)", full.put(99, 5), 0);
    c.due("size()", full.size(), 12);
    c.due("look(99)", full.look(99), 5);
    String behind = "1 2 3 4 5 6 7 8 9 10 11 99";
    Books.dueOrders(c, "one more", full, behind, behind);
  }

  @Says("`key`: 0 to 99")
  static void promise02EachKeyOfTheRange(Checks c) {
    for (int key = 0; key <= 99; key++) {
      Twicebook x = new Twicebook();
      c.due("put(" + key + ", 1)", x.put(key, 1), -1);
      c.due("has(" + key + ")", x.has(key), true);
    }
  }

  @Says("`value`: the value")
  static void promise02LeastAndGreatestValue(Checks c) {
    Twicebook x = Books.of(1);
    for (int value : Books.EDGE_VALUES) {
      x.put(1, value);
      c.due("look(1)", x.look(1), value);
    }
  }

  @Says("Returns the key of the entry that goes, -1 if none does.")
  static void promise02KeyThatGoesAtTheLimit(Checks c) {
    Twicebook x = new Twicebook();
    x.limit(2);
    c.due("put(0, 0), the first", x.put(0, 0), -1);
    c.due("put(1, 0), as many as the limit", x.put(1, 0), -1);
    c.due("put(0, 1) of one that is there", x.put(0, 1), -1);
    c.due("put(2, 0), one more", x.put(2, 0), 0);
    x.way('a');
    x.get(1);
    c.due("put(3, 0), one more by asking", x.put(3, 0), 2);
    x.limit(1);
    c.due("put(99, 0) at the limit 1", x.put(99, 0), 3);
    c.due("put(0, 0) at the limit 1", x.put(0, 0), 99);
  }

  @Says("Throws `IllegalArgumentException` if the key is out of range")
  static void promise02KeyTooSmallAndTooLarge(Checks c) {
    for (int key : Books.KEYS_OUT_OF_RANGE) {
      Books.dueRefused(c, "put(" + key + ", 1)", Books.ILLEGAL, x -> x.put(key, 1));
    }
  }

  @Says("Lets an entry come in if its key is not there")
  static void promise03ComesInToNoneAndToTwelve(Checks c) {
    Twicebook none = new Twicebook();
    c.due("putIfAbsent(0, 5)", none.putIfAbsent(0, 5), true);
    c.due("look(0)", none.look(0), 5);
    Twicebook full = Books.ofTwelve();
    full.way('a');
    full.get(0);
    c.due("putIfAbsent(12, 5)", full.putIfAbsent(12, 5), true);
    Books.dueOrders(c, "1 went", full, "0 2 3 4 5 6 7 8 9 10 11 12", "2 3 4 5 6 7 8 9 10 11 0 12");
    full.limit(1);
    c.due("putIfAbsent(13, 5) at the limit 1", full.putIfAbsent(13, 5), true);
    Books.dueOrders(c, "only 13", full, "13", "13");
  }

  @Says("otherwise the entry of the key is touched, and keeps its value")
  static void promise03FirstMiddleLastAndFull(Checks c) {
    String[] askings = {"2 3 1", "1 3 2", "1 2 3"};
    for (int key = 1; key <= 3; key++) {
      Twicebook x = Books.of(1, 2, 3);
      x.limit(3);
      c.due("putIfAbsent(" + key + ", 5)", x.putIfAbsent(key, 5), false);
      c.due("look(" + key + ")", x.look(key), 10 * key);
      Books.dueOrders(c, "putIfAbsent(" + key + ", 5)", x, "1 2 3", askings[key - 1]);
    }
  }

  @Says("`key`: 0 to 99")
  static void promise03EachKeyOfTheRange(Checks c) {
    for (int key = 0; key <= 99; key++) {
      Twicebook x = new Twicebook();
      c.due("putIfAbsent(" + key + ", 1)", x.putIfAbsent(key, 1), true);
      c.due("putIfAbsent(" + key + ", 2)", x.putIfAbsent(key, 2), false);
      c.due("look(" + key + ")", x.look(key), 1);
    }
  }

  @Says("`value`: the value")
  static void promise03LeastAndGreatestValue(Checks c) {
    for (int value : Books.EDGE_VALUES) {
      Twicebook x = new Twicebook();
      x.putIfAbsent(1, value);
      c.due("look(1)", x.look(1), value);
    }
  }

  @Says("Returns whether one comes in.")
  static void promise03ComesInAgainOnceItIsOut(Checks c) {
    Twicebook x = Books.of(1, 2);
    c.due("putIfAbsent(1, 5)", x.putIfAbsent(1, 5), false);
    x.remove(1);
    c.due("putIfAbsent(1, 5) once it is out", x.putIfAbsent(1, 5), true);
    x.limit(2);
    x.put(3, 0);
    c.due("putIfAbsent(2, 5) once it went", x.putIfAbsent(2, 5), true);
    c.due("putIfAbsent(3, 5) at the limit", x.putIfAbsent(3, 5), false);
  }

  @Says("Throws `IllegalArgumentException` if the key is out of range")
  static void promise03KeyTooSmallAndTooLarge(Checks c) {
    for (int key : Books.KEYS_OUT_OF_RANGE) {
      Books.dueRefused(c, "putIfAbsent(" + key + ", 1)", Books.ILLEGAL, x -> x.putIfAbsent(key, 1));
    }
  }

  @Says("Returns the value of a key; its entry is touched.")
  static void promise04FirstMiddleLastAndOnly(Checks c) {
    String[] askings = {"2 3 1", "1 3 2", "1 2 3"};
    for (int key = 1; key <= 3; key++) {
      Twicebook x = Books.of(1, 2, 3);
      c.due("get(" + key + ")", x.get(key), 10 * key);
      Books.dueOrders(c, "get(" + key + ")", x, "1 2 3", askings[key - 1]);
    }
    Twicebook only = Books.of(1);
    c.due("get(1), the only one", only.get(1), 10);
    Books.dueOrders(c, "the only one", only, "1", "1");
  }

  @Says("`key`: the key")
  static void promise04LeastAndGreatestKey(Checks c) {
    Twicebook x = Books.of(0, 99);
    c.due("get(0)", x.get(0), 0);
    c.due("get(99)", x.get(99), 990);
  }

  @Says("Returns the value.")
  static void promise04LeastAndGreatestValue(Checks c) {
    Twicebook x = Books.of(1);
    for (int value : Books.EDGE_VALUES) {
      x.setAt('c', 0, value);
      c.due("get(1)", x.get(1), value);
    }
  }

  @Says("Throws `NoSuchElementException` if the key is not there")
  static void promise04KeyNotThere(Checks c) {
    for (int key : Books.ABSENT_KEYS) {
      Books.dueRefused(c, "get(" + key + ")", Books.ABSENT, x -> x.get(key));
    }
    Twicebook x = Books.of(1, 2, 3);
    x.remove(1);
    x.limit(1);
    c.dueThrow("get(1) once it is out", Books.ABSENT, () -> x.get(1));
    c.dueThrow("get(2) once it went", Books.ABSENT, () -> x.get(2));
    x.put(4, 0);
    x.undo();
    c.dueThrow("get(4) once it is undone", Books.ABSENT, () -> x.get(4));
  }

  @Says("Returns the value of a key if it is there; then its entry is touched.")
  static void promise05FirstMiddleLastAndOnly(Checks c) {
    String[] askings = {"2 3 1", "1 3 2", "1 2 3"};
    for (int key = 1; key <= 3; key++) {
      Twicebook x = Books.of(1, 2, 3);
      c.due("getOr(" + key + ", 5)", x.getOr(key, 5), 10 * key);
      Books.dueOrders(c, "getOr(" + key + ", 5)", x, "1 2 3", askings[key - 1]);
    }
    c.due("getOr(1, 5), the only one", Books.of(1).getOr(1, 5), 10);
  }

  @Says("`key`: the key")
  static void promise05LeastAndGreatestKey(Checks c) {
    Twicebook x = Books.of(0, 99);
    c.due("getOr(0, 5)", x.getOr(0, 5), 0);
    c.due("getOr(99, 5)", x.getOr(99, 5), 990);
  }

  @Says("`other`: what is returned if it is not there")
  static void promise05KeyNotThereChangesNothing(Checks c) {
    for (int key : Books.ABSENT_KEYS) {
      Books.dueQuiet(c, "getOr(" + key + ", 5)", 5, x -> x.getOr(key, 5));
    }
  }

  @Says("Returns the value, or the other one.")
  static void promise05LeastAndGreatestValueAndOther(Checks c) {
    Twicebook x = Books.of(1);
    for (int value : Books.EDGE_VALUES) {
      x.setAt('c', 0, value);
      c.due("getOr(1, 5)", x.getOr(1, 5), value);
      c.due("getOr(1, " + value + ")", x.getOr(1, value), value);
      c.due("getOr(2, " + value + ")", x.getOr(2, value), value);
    }
  }

  @Says("Gives a key another value if it is there; then its entry is touched.")
  static void promise06FirstMiddleLastAndOnly(Checks c) {
    String[] askings = {"2 3 1", "1 3 2", "1 2 3"};
    for (int key = 1; key <= 3; key++) {
      Twicebook x = Books.of(1, 2, 3);
      c.due("replace(" + key + ", 5)", x.replace(key, 5), true);
      c.due("look(" + key + ")", x.look(key), 5);
      Books.dueOrders(c, "replace(" + key + ", 5)", x, "1 2 3", askings[key - 1]);
    }
    Twicebook only = Books.of(1);
    c.due("replace(1, 10), the same value", only.replace(1, 10), true);
    c.due("look(1)", only.look(1), 10);
  }

  @Says("`key`: the key")
  static void promise06LeastAndGreatestKey(Checks c) {
    Twicebook x = Books.of(0, 99);
    c.due("replace(0, 5)", x.replace(0, 5), true);
    c.due("replace(99, 5)", x.replace(99, 5), true);
  }

  @Says("`value`: the value")
  static void promise06LeastAndGreatestValue(Checks c) {
    Twicebook x = Books.of(1);
    for (int value : Books.EDGE_VALUES) {
      c.due("replace(1, " + value + ")", x.replace(1, value), true);
      c.due("look(1)", x.look(1), value);
    }
  }

  @Says("Returns whether it is there.")
  static void promise06KeyNotThereChangesNothing(Checks c) {
    for (int key : Books.ABSENT_KEYS) {
      Books.dueQuiet(c, "replace(" + key + ", 5)", false, x -> x.replace(key, 5));
    }
  }

  @Says("Gives a key another value if it is there and has a value that is told")
  static void promise07FirstMiddleLastAndOnly(Checks c) {
    String[] askings = {"2 3 1", "1 3 2", "1 2 3"};
    for (int key = 1; key <= 3; key++) {
      Twicebook x = Books.of(1, 2, 3);
      int before = 10 * key;
      c.due("replaceIf(" + key + ", ..)", x.replaceIf(key, before, 5), true);
      c.due("look(" + key + ")", x.look(key), 5);
      Books.dueOrders(c, "replaceIf(" + key + ", ..)", x, "1 2 3", askings[key - 1]);
    }
    Twicebook only = Books.of(1);
    c.due("replaceIf(1, 10, 10), the same value", only.replaceIf(1, 10, 10), true);
    c.due("look(1)", only.look(1), 10);
  }

  @Says("only then its entry is touched")
  static void promise07AnotherValueChangesNothing(Checks c) {
    Books.Call call = x -> x.replaceIf(1, 9, 5);
    Books.dueUnchanged(c, "replaceIf(1, 9, 5)", () -> Books.of(1, 2, 3), call::on);
    Books.dueUnchanged(
        c, "it on a walk", () -> Books.walked(Books.of(1, 2, 3), 'c', 1), call::on);
    for (int before : new int[] {9, 11, -10, 10 + 65536, 10 + 256, Books.LEAST, Books.GREATEST}) {
      c.due("replaceIf(1, " + before + ", 5)", Books.of(1).replaceIf(1, before, 5), false);
    }
  }

  @Says("`key`: the key")
  static void promise07LeastAndGreatestKey(Checks c) {
    Twicebook x = Books.of(0, 99);
    c.due("replaceIf(0, 0, 5)", x.replaceIf(0, 0, 5), true);
    c.due("replaceIf(99, 990, 5)", x.replaceIf(99, 990, 5), true);
  }

  @Says("`before`: the value that it is to have")
  static void promise07LeastAndGreatestValueBefore(Checks c) {
    for (int before : Books.EDGE_VALUES) {
      for (int value : Books.EDGE_VALUES) {
        Twicebook x = new Twicebook();
        x.put(1, value);
        c.due(value + " if " + before, x.replaceIf(1, before, 5), before == value);
        c.due("look(1) behind " + value + " if " + before, x.look(1), before == value ? 5 : value);
      }
    }
  }

  @Says("`value`: the value that it gets")
  static void promise07LeastAndGreatestValue(Checks c) {
    for (int value : Books.EDGE_VALUES) {
      Twicebook x = Books.of(1);
      c.due("replaceIf(1, 10, " + value + ")", x.replaceIf(1, 10, value), true);
      c.due("look(1)", x.look(1), value);
    }
  }

  @Says("Returns whether it gets it.")
  static void promise07KeyNotThereChangesNothing(Checks c) {
    for (int key : Books.ABSENT_KEYS) {
      for (int before : new int[] {0, -1, 10}) {
        String call = "replaceIf(" + key + ", " + before + ", 5)";
        Books.dueQuiet(c, call, false, x -> x.replaceIf(key, before, 5));
      }
    }
  }
}
