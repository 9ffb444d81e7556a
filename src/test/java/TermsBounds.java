import java.util.List;

/** The boundary cases that "Terms" names: of entries, orders, moves, changes, walks, exceptions. */
final class TermsBounds {
  private TermsBounds() {}

  @Says(
      "both orders have the same entries, and each of them is told alike by the map and by "
          + "the row")
  static void termsBothOrdersHaveTheSameEntries(Checks c) {
    Books.states()
        .forEach(
            (name, state) -> {
              Twicebook x = state.get();
              c.due("keys of " + name, sorted(Books.keys(x, 'a')), sorted(Books.keys(x, 'c')));
              dueToldAlike(c, name, x);
            });
  }

  private static List<String> sorted(String keys) {
    return List.of(keys.split(" ")).stream().sorted().toList();
  }

  private static void dueToldAlike(Checks c, String name, Twicebook x) {
    for (char order : Books.ORDERS) {
      for (int place = 0; place < x.size(); place++) {
        int key = x.keyAt(order, place);
        c.due("has(" + key + ") of " + name, x.has(key), true);
        c.due("placeOf(" + order + ", " + key + ") of " + name, x.placeOf(order, key), place);
      }
    }
  }

  @Says(
      "Of two keys that are there the one that came in earlier, the last time it did, stands "
          + "ahead in the order of coming")
  static void termsComingInAgainCountsTheLastTime(Checks c) {
    Twicebook x = Books.of(1, 2, 3);
    x.remove(1);
    x.put(1, 1);
    Books.dueOrders(c, "1 came in again", x, "2 3 1", "2 3 1");
  }

  @Says(
      "the one that came in or was touched earlier, the last time it was, stands ahead in the"
          + " order of asking")
  static void termsTouchedTwiceCountsTheLastTime(Checks c) {
    Twicebook x = Books.asked(Books.of(1, 2, 3), 1, 2, 1);
    Books.dueOrders(c, "1 was touched last", x, "1 2 3", "3 2 1");
  }

  @Says("calls that were undone do not count")
  static void termsUndoneCallsDoNotCount(Checks c) {
    Twicebook x = Books.of(1, 2, 3);
    x.get(1);
    x.remove(2);
    x.put(2, 5);
    x.undo();
    x.undo();
    x.undo();
    Books.dueOrders(c, "a touch and a new coming undone", x, "1 2 3", "1 2 3");
    x.get(2);
    Books.dueOrders(c, "2 touched behind it", x, "1 2 3", "1 3 2");
  }

  @Says(
      "If a map in the order of asking is given the entries in the order of coming, and is "
          + "then asked for the moves, one after the other, it has the order of asking of the book")
  static void termsMovesOfTwelveGiveTheOrderOfAsking(Checks c) {
    Twicebook x = Books.asked(Books.ofTwelve(), 11, 10, 9, 8, 7, 6, 5, 4, 3, 2, 1, 0);
    Twicebook played = Books.ofTwelve();
    for (int index = 0; index < x.moves(); index++) {
      played.get(x.move(index));
    }
    c.due("the order of asking", Books.keys(played, 'a'), Books.keys(x, 'a'));
  }

  @Says("no row of fewer askings brings it there")
  static void termsNoFewerAskingsOfThree(Checks c) {
    Twicebook x = Books.asked(Books.of(1, 2, 3), 2, 1);
    c.due("moves()", x.moves(), 2);
    for (int key = 1; key <= 3; key++) {
      Twicebook one = Books.asked(Books.of(1, 2, 3), key);
      c.due("one asking of " + key, Books.keys(one, 'a').equals(Books.keys(x, 'a')), false);
    }
  }

  @Says("An entry has a key, 0 to 99, and a value, any int")
  static void termsEveryKeyAndEveryValue(Checks c) {
    for (int key = 0; key <= 99; key++) {
      for (int value : Books.EDGE_VALUES) {
        Twicebook x = new Twicebook();
        x.put(key, value);
        c.due("look(" + key + ")", x.look(key), value);
        c.due("keyAt('c', 0)", x.keyAt('c', 0), key);
      }
    }
  }

  @Says("no two entries have the same key")
  static void termsAKeyIsThereOnce(Checks c) {
    Twicebook x = Books.of(1, 2);
    x.put(1, 10);
    x.putIfAbsent(1, 11);
    x.replace(1, 12);
    Books.dueOrders(c, "1 given again", x, "1 2", "2 1");
    x.remove(1);
    c.due("has(1) once it is out", x.has(1), false);
  }

  @Says("The book has none at first.")
  static void termsNoEntriesAtFirst(Checks c) {
    c.due("size()", new Twicebook().size(), 0);
  }

  @Says("It has a limit, 1 to 12, at first 8")
  static void termsEachLimitHolds(Checks c) {
    dueFullAt(c, "the first limit", new Twicebook(), 8);
    for (int most = 1; most <= 12; most++) {
      Twicebook x = new Twicebook();
      x.limit(most);
      dueFullAt(c, "limit " + most, x, most);
    }
  }

  private static void dueFullAt(Checks c, String what, Twicebook x, int most) {
    for (int key = 1; key <= most; key++) {
      c.due(what + ": put(" + key + ", 0)", x.put(key, 0), -1);
    }
    c.due(what + ": size() when full", x.size(), most);
    c.due(what + ": put of one more", x.put(most + 1, 0), 1);
    c.due(what + ": size() behind it", x.size(), most);
  }

  @Says("a way, 'c' by coming, as at first, or 'a' by asking")
  static void termsTheFirstWayIsByComing(Checks c) {
    Twicebook x = new Twicebook();
    x.limit(2);
    x.put(1, 0);
    x.put(2, 0);
    x.get(1);
    c.due("put(3, 0)", x.put(3, 0), 1);
    x.get(2);
    x.way('a');
    c.due("put(4, 0) by asking", x.put(4, 0), 3);
  }

  @Says("If an entry comes in, and there are more than the limit then, the eldest one goes")
  static void termsOneGoesOnlyAboveTheLimit(Checks c) {
    Twicebook x = Books.of(1, 2);
    x.limit(3);
    c.due("put(3, 0), as many as the limit", x.put(3, 0), -1);
    c.due("put(3, 1), for none comes in", x.put(3, 1), -1);
    c.due("putIfAbsent(1, 1), for none comes in", x.putIfAbsent(1, 1), false);
    Books.dueOrders(c, "three at the limit 3", x, "1 2 3", "2 3 1");
    c.due("put(4, 0)", x.put(4, 0), 1);
    Books.dueOrders(c, "one over the limit 3", x, "2 3 4", "2 3 4");
  }

  @Says("the first one of the order of this way")
  static void termsAtTheLimitOneTheOtherGoes(Checks c) {
    for (char way : Books.ORDERS) {
      Twicebook x = Books.of(1);
      x.limit(1);
      x.way(way);
      c.due("put(2, 0) by " + way, x.put(2, 0), 1);
      Books.dueOrders(c, "by " + way, x, "2", "2");
    }
  }

  @Says("the places in both are numbered from 0")
  static void termsPlacesFromZero(Checks c) {
    Twicebook x = Books.asked(Books.of(5, 6), 5);
    c.due("keyAt('c', 0)", x.keyAt('c', 0), 5);
    c.due("keyAt('a', 0)", x.keyAt('a', 0), 6);
    c.due("placeOf('c', 5)", x.placeOf('c', 5), 0);
    c.due("placeOf('a', 6)", x.placeOf('a', 6), 0);
    c.dueThrow("keyAt('c', 2)", Books.BOUNDS, () -> x.keyAt('c', 2));
  }

  @Says("An entry that comes in stands behind all others in both.")
  static void termsComesInBehindAll(Checks c) {
    Twicebook x = new Twicebook();
    x.put(9, 0);
    Books.dueOrders(c, "the first of all", x, "9", "9");
    x.put(0, 0);
    x.get(9);
    x.putIfAbsent(5, 0);
    Books.dueOrders(c, "the third", x, "9 0 5", "0 9 5");
    Twicebook full = Books.asked(Books.ofTwelve(), 0);
    full.put(12, 0);
    c.due("placeOf('c', 12) when full", full.placeOf('c', 12), 11);
    c.due("placeOf('a', 12) when full", full.placeOf('a', 12), 11);
  }

  @Says(
      "An entry that is touched goes behind all others in the order of asking, and stays "
          + "where it stands in the order of coming.")
  static void termsTouchedFirstMiddleLastAndOnly(Checks c) {
    Books.dueOrders(c, "the first", Books.asked(Books.of(1, 2, 3), 1), "1 2 3", "2 3 1");
    Books.dueOrders(c, "the middle", Books.asked(Books.of(1, 2, 3), 2), "1 2 3", "1 3 2");
    Books.dueOrders(c, "the last", Books.asked(Books.of(1, 2, 3), 3), "1 2 3", "1 2 3");
    Books.dueOrders(c, "the only one", Books.asked(Books.of(1), 1), "1", "1");
    String all = "0 1 2 3 4 5 6 7 8 9 10 11";
    Twicebook full = Books.asked(Books.ofTwelve(), 0);
    Books.dueOrders(c, "the first of twelve", full, all, "1 2 3 4 5 6 7 8 9 10 11 0");
  }

  @Says("An entry that goes, or is taken out, is out of both; the others stay in their order.")
  static void termsOutOfBothFirstMiddleLastAndOnly(Checks c) {
    String[] comings = {"2 3 4", "1 3 4", "1 2 4", "1 2 3"};
    String[] askings = {"3 4 2", "3 4 1", "4 2 1", "3 2 1"};
    for (int key = 1; key <= 4; key++) {
      Twicebook x = Books.asked(Books.of(1, 2, 3, 4), 2, 1);
      x.remove(key);
      Books.dueOrders(c, key + " taken out", x, comings[key - 1], askings[key - 1]);
    }
    Twicebook only = Books.of(1);
    only.remove(1);
    Books.dueOrders(c, "the only one taken out", only, "", "");
    Twicebook gone = Books.asked(Books.of(1, 2, 3, 4), 2, 1);
    gone.limit(3);
    Books.dueOrders(c, "the first of coming goes", gone, "2 3 4", "3 4 2");
  }

  @Says("Only methods that say so touch an entry.")
  static void termsTheOthersDoNotTouch(Checks c) {
    Books.Call[] calls = {
      x -> x.look(1), x -> x.has(1), x -> x.size(), x -> x.limit(9), x -> x.way('a'),
      x -> x.keyAt('a', 0), x -> x.keyAt('c', 0), x -> x.placeOf('a', 1), x -> x.setAt('a', 0, 5),
      x -> x.setAt('c', 0, 5), x -> x.thin('a', 5), x -> x.walk('a'), x -> x.moves(),
      x -> x.move(0), x -> x.crossings(), x -> x.isTrue(), x -> x.checksum(),
      x -> x.replaceIf(1, 11, 5), x -> x.getOr(9, 0), x -> x.replace(9, 0),
    };
    for (int number = 0; number < calls.length; number++) {
      Books.Call call = calls[number];
      Twicebook x = Books.asked(Books.of(1, 2, 3), 1);
      Checks.outcome(() -> call.on(x));
      Books.dueOrders(c, "call " + number, x, "1 2 3", "2 3 1");
    }
    Twicebook walking = Books.walked(Books.asked(Books.of(1, 2, 3), 1), 'a', 3);
    Books.dueOrders(c, "three steps", walking, "1 2 3", "2 3 1");
  }

  @Says(
      "The longest beginning of the order of asking whose keys stand in the order of coming "
          + "in the same order")
  static void termsTheBeginningThatStaysAtItsEdges(Checks c) {
    c.due("of none", new Twicebook().moves(), 0);
    c.due("of one", Books.of(1).moves(), 0);
    c.due("all stay", Books.of(1, 2, 3).moves(), 0);
    c.due("of 3 2 1 one stays", Books.asked(Books.of(1, 2, 3), 2, 1).moves(), 2);
  }

  @Says("also with others between them, stays")
  static void termsOthersMayStandBetween(Checks c) {
    Twicebook x = Books.asked(Books.of(1, 2, 3, 4, 5), 2, 4);
    c.due("the order of asking", Books.keys(x, 'a'), "1 3 5 2 4");
    c.due("moves()", x.moves(), 2);
  }

  @Says("The keys behind it are the moves, in their order there.")
  static void termsMovesInTheirOrder(Checks c) {
    Twicebook x = Books.asked(Books.of(1, 2, 3, 4), 3, 1, 2);
    c.due("move(0)", x.move(0), 3);
    c.due("move(1)", x.move(1), 1);
    c.due("move(2)", x.move(2), 2);
  }
}
