import java.util.LinkedHashMap;
import java.util.Map;

/** The boundary cases that "Terms" names of changes, walks and exceptions. */
final class ChangesBounds {
  private static final String LIMIT_TOLD = "limit 12, way c";
  private static final String ALL = "throws.NoSuchElementException";

  private ChangesBounds() {}

  /** One call for each method and each way in which it changes a book of the keys 1, 2 and 3. */
  private static Map<String, Books.Call> changes() {
    Map<String, Books.Call> changes = new LinkedHashMap<>();
    changes.put("put of a new key", x -> x.put(9, 1));
    changes.put("put", x -> x.put(2, 1));
    changes.put("put of the same value", x -> x.put(2, 20));
    changes.put("put of the last with the same value", x -> x.put(3, 30));
    changes.put("putIfAbsent of a new key", x -> x.putIfAbsent(9, 1));
    changes.put("putIfAbsent", x -> x.putIfAbsent(2, 1));
    changes.put("putIfAbsent of the last", x -> x.putIfAbsent(3, 1));
    changes.put("get", x -> x.get(2));
    changes.put("get of the last", x -> x.get(3));
    changes.put("getOr", x -> x.getOr(2, 0));
    changes.put("getOr of the last", x -> x.getOr(3, 0));
    changes.put("getOr with the value as other", x -> x.getOr(2, 20));
    changes.put("replace", x -> x.replace(2, 1));
    changes.put("replace by the same value", x -> x.replace(2, 20));
    changes.put("replace of the last by the same value", x -> x.replace(3, 30));
    changes.put("replaceIf", x -> x.replaceIf(2, 20, 1));
    changes.put("replaceIf by the same value", x -> x.replaceIf(2, 20, 20));
    changes.put("replaceIf of the last by the same value", x -> x.replaceIf(3, 30, 30));
    changes.put("remove", x -> x.remove(2));
    changes.put("limit", x -> x.limit(5));
    changes.put("limit of as many", x -> x.limit(3));
    changes.put("limit of less", x -> x.limit(1));
    changes.put("the same limit", x -> x.limit(12));
    changes.put("way", x -> x.way('a'));
    changes.put("the same way", x -> x.way('c'));
    changes.put("setAt by coming", x -> x.setAt('c', 1, 1));
    changes.put("setAt by asking", x -> x.setAt('a', 1, 1));
    changes.put("setAt of the same value", x -> x.setAt('c', 1, 20));
    changes.put("setAt of the last by the same value", x -> x.setAt('a', 2, 30));
    changes.put("removeAt by coming", x -> x.removeAt('c', 0));
    changes.put("removeAt by asking", x -> x.removeAt('a', 2));
    changes.put("thin of one", x -> x.thin('c', 3));
    changes.put("thin of all", x -> x.thin('a', 1));
    return changes;
  }

  private static Twicebook three() {
    return Books.of(1, 2, 3);
  }

  @Says(
      "A method changes the book if by it an entry comes in, is touched, gets a value, goes "
          + "or is taken out")
  static void termsEachChangeIsAChange(Checks c) {
    changes().forEach((name, call) -> Books.dueChange(c, name, ChangesBounds::three, call));
  }

  @Says("also if it had this value, or stood last")
  static void termsAChangeToTheSameIsAChange(Checks c) {
    Twicebook x = three();
    x.put(3, 30);
    x.replace(3, 30);
    x.replaceIf(3, 30, 30);
    c.due("undo()", x.undo(), 6);
    x.setAt('a', 2, 30);
    x.get(3);
    c.due("undo()", x.undo(), 7);
  }

  @Says("if the limit or the way is told, also the same one")
  static void termsTheSameLimitOrWayToldIsAChange(Checks c) {
    Twicebook x = new Twicebook();
    x.limit(8);
    x.way('c');
    c.due("undo() of the way", x.undo(), 1);
    c.due("undo() of the limit", x.undo(), 0);
    Twicebook walking = Books.walked(three(), 'c', 1);
    walking.limit(12);
    c.dueThrow("step() behind the same limit", Books.STATE, walking::step);
  }

  @Says("or if something is undone")
  static void termsUndoingIsAChangeAndEndsTheWalk(Checks c) {
    Twicebook x = Books.walked(three(), 'c', 1);
    x.undo();
    c.dueThrow("step() behind undo()", Books.STATE, x::step);
    c.dueThrow("cut() behind undo()", Books.STATE, x::cut);
  }

  @Says("A method that changes the book, other than undo(), keeps it as it was ahead")
  static void termsUndoIsNotKept(Checks c) {
    Twicebook x = three();
    c.due("undo()", x.undo(), 3);
    c.due("undo()", x.undo(), 2);
    c.due("undo()", x.undo(), 1);
    c.due("size()", x.size(), 0);
  }

  @Says("its entries, both orders, the limit and the way")
  static void termsWhatIsKeptComesBack(Checks c) {
    Twicebook x = Books.asked(Books.of(1, 2, 3), 2);
    x.limit(3);
    x.way('a');
    x.put(4, Books.LEAST);
    x.setAt('c', 0, 5);
    x.undo();
    c.due("put(5, 0) behind undo()", x.put(5, 0), 3);
    x.undo();
    x.undo();
    Books.dueOrders(c, "undone", x, "1 2 3", "1 3 2");
    c.due("look(1), that went", x.look(1), 10);
    c.due("the limit and the way", Books.limitAndWay(x), "limit 3, way a");
    Twicebook earlier = Books.asked(Books.of(1, 2, 3), 2);
    earlier.limit(3);
    earlier.way('a');
    earlier.undo();
    earlier.undo();
    c.due("the earlier ones", Books.limitAndWay(earlier), "limit 12, way c");
  }

  @Says("at most eight are kept, the oldest one is forgotten then")
  static void termsTheNinthForgetsTheOldest(Checks c) {
    Twicebook eight = changedTimes(8);
    c.due("undo() of the eighth", eight.undo(), 7);
    c.due("kept behind it", Books.kept(eight), 7);
    c.due("has(1) behind all eight", eight.has(1), false);
    Twicebook nine = changedTimes(9);
    c.due("undo() of the ninth", nine.undo(), 7);
    c.due("kept behind it", Books.kept(nine), 7);
    c.due("look(1), for the first is forgotten", nine.look(1), 1);
    Twicebook many = changedTimes(500);
    c.due("undo() of the 500th", many.undo(), 7);
    c.due("kept behind it", Books.kept(many), 7);
    c.due("look(1), as it was ahead of eight", many.look(1), 492);
  }

  private static Twicebook changedTimes(int times) {
    Twicebook x = new Twicebook();
    for (int value = 1; value <= times; value++) {
      x.put(1, value);
    }
    return x;
  }

  @Says("the oldest one is forgotten then")
  static void termsAnyChangeForgetsTheOldest(Checks c) {
    changes()
        .forEach(
            (name, call) -> {
              Twicebook x = three();
              for (int times = 0; times < 4; times++) {
                x.get(3);
              }
              call.on(x);
              c.due("undo() of " + name + ", the ninth", x.undo(), 7);
              c.due("kept behind it", Books.kept(x), 7);
              c.due("the limit, for telling it is forgotten", Books.limitAndWay(x), LIMIT_TOLD);
            });
    Twicebook x = Books.asked(three(), 3, 3, 3, 3);
    Books.walked(x, 'c', 1).cut();
    c.due("undo() of cut, the ninth", x.undo(), 7);
  }

  @Says("There is at most one, none at first.")
  static void termsNoWalkAtFirstAndOneAtMost(Checks c) {
    c.dueThrow("step()", Books.STATE, () -> new Twicebook().step());
    c.dueThrow("cut()", Books.STATE, () -> new Twicebook().cut());
    c.dueThrow("step() of three", Books.STATE, () -> three().step());
    Twicebook x = Books.walked(Books.asked(three(), 1), 'c', 2);
    x.walk('a');
    c.due("the walk", Books.restOfWalk(x), "steps 2 3 1 throws.NoSuchElementException\n");
  }

  @Says("A walk goes over the entries in one of the orders.")
  static void termsAWalkGoesOverAllOnce(Checks c) {
    Twicebook full = Books.asked(Books.ofTwelve(), 0);
    full.walk('c');
    c.due("by coming", Books.restOfWalk(full), "steps 0 1 2 3 4 5 6 7 8 9 10 11 " + ALL + "\n");
    full.walk('a');
    c.due("by asking", Books.restOfWalk(full), "steps 1 2 3 4 5 6 7 8 9 10 11 0 " + ALL + "\n");
    full.limit(1);
    full.walk('a');
    c.due("of one", Books.restOfWalk(full), "steps 11 " + ALL + "\n");
  }

  @Says("It is over as the book is changed by anything but cut().")
  static void termsEachChangeEndsAWalk(Checks c) {
    changes()
        .forEach(
            (name, call) -> {
              Twicebook stepping = Books.walked(three(), 'a', 1);
              call.on(stepping);
              c.dueThrow("step() behind " + name, Books.STATE, stepping::step);
              Twicebook cutting = Books.walked(three(), 'a', 1);
              call.on(cutting);
              c.dueThrow("cut() behind " + name, Books.STATE, cutting::cut);
            });
    Twicebook x = Books.walked(three(), 'a', 1);
    x.cut();
    c.due("step() behind cut()", x.step(), 2);
  }

  @Says("It is not kept.")
  static void termsUndoBringsNoWalkBack(Checks c) {
    Twicebook x = Books.walked(three(), 'c', 1);
    x.get(1);
    x.undo();
    c.dueThrow("step() behind get and undo", Books.STATE, x::step);
    Twicebook cut = Books.walked(three(), 'c', 2);
    cut.cut();
    cut.undo();
    c.dueThrow("step() behind cut and undo", Books.STATE, cut::step);
    c.dueThrow("cut() behind cut and undo", Books.STATE, cut::cut);
    Twicebook begun = three();
    begun.get(1);
    begun.walk('c');
    begun.step();
    begun.undo();
    c.dueThrow("step(), for the walk began behind what is undone", Books.STATE, begun::step);
    Twicebook steps = Books.walked(three(), 'c', 3);
    c.due("kept behind walk and steps", Books.kept(steps), 4);
  }

  @Says("A method that throws an exception changes nothing.")
  static void termsTheRefusedCallOfEachMethodChangesNothing(Checks c) {
    Books.dueRefused(c, "put", Books.ILLEGAL, x -> x.put(100, 1));
    Books.dueRefused(c, "putIfAbsent", Books.ILLEGAL, x -> x.putIfAbsent(100, 1));
    Books.dueRefused(c, "get", Books.ABSENT, x -> x.get(50));
    Books.dueRefused(c, "look", Books.ABSENT, x -> x.look(50));
    Books.dueRefused(c, "remove", Books.ABSENT, x -> x.remove(50));
    Books.dueRefused(c, "limit", Books.ILLEGAL, x -> x.limit(0));
    Books.dueRefused(c, "way", Books.ILLEGAL, x -> x.way('b'));
    Books.dueRefused(c, "keyAt", Books.BOUNDS, x -> x.keyAt('c', 12));
    Books.dueRefused(c, "placeOf", Books.ABSENT, x -> x.placeOf('c', 50));
    Books.dueRefused(c, "setAt", Books.BOUNDS, x -> x.setAt('c', -1, 1));
    Books.dueRefused(c, "removeAt", Books.BOUNDS, x -> x.removeAt('c', -1));
    Books.dueRefused(c, "thin", Books.ILLEGAL, x -> x.thin('c', 0));
    Books.dueRefused(c, "walk", Books.ILLEGAL, x -> x.walk('b'));
    Books.dueRefused(c, "move", Books.BOUNDS, x -> x.move(-1));
    Books.dueRefusedOn(c, "step", ChangesBounds::three, Books.STATE, Twicebook::step);
    Books.dueRefusedOn(c, "cut", ChangesBounds::three, Books.STATE, Twicebook::cut);
    Books.dueRefusedOn(c, "undo", Twicebook::new, Books.ABSENT, Twicebook::undo);
  }

  @Says("If several exceptions apply, the one that is documented first is thrown.")
  static void termsTheFirstDocumentedIsThrown(Checks c) {
    Books.dueRefused(c, "keyAt('b', -1)", Books.ILLEGAL, x -> x.keyAt('b', -1));
    Books.dueRefused(c, "placeOf('b', -1)", Books.ILLEGAL, x -> x.placeOf('b', -1));
    Books.dueRefused(c, "setAt('b', -1, 0)", Books.ILLEGAL, x -> x.setAt('b', -1, 0));
    Books.dueRefused(c, "removeAt('b', -1)", Books.ILLEGAL, x -> x.removeAt('b', -1));
    Books.dueRefusedOn(c, "step() of none", Twicebook::new, Books.STATE, Twicebook::step);
  }
}
