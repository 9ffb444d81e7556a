import java.util.NoSuchElementException;

/** For each promise of the document: ordinary inputs, the edges it names, and wrong inputs. */
public final class TwicebookPromisesTest {
  private static final Class<IllegalArgumentException> ILLEGAL = Books.ILLEGAL;
  private static final Class<IllegalStateException> STATE = Books.STATE;
  private static final Class<IndexOutOfBoundsException> BOUNDS = Books.BOUNDS;
  private static final Class<NoSuchElementException> ABSENT = Books.ABSENT;
  private static final int LEAST = Books.LEAST;
  private static final int GREATEST = Books.GREATEST;
  private static final Checks CHECKS = new Checks();

  public static void main(String[] args) {
    entriesOne();
    entriesTwo();
    orders();
    walks();
    movesAndPast();
    CHECKS.end();
  }

  private static void entriesOne() {
    newObject();
    put();
    putIfAbsent();
    get();
    getOr();
    replace();
    replaceIf();
  }

  private static void entriesTwo() {
    look();
    has();
    remove();
    size();
    limit();
    way();
  }

  private static void orders() {
    keyAt();
    placeOf();
    setAt();
    removeAt();
    thin();
  }

  private static void walks() {
    walk();
    step();
    cut();
    walkIsOver();
    walkGoesOn();
  }

  private static void movesAndPast() {
    moves();
    move();
    crossings();
    undo();
    undoOfEachChange();
    noChange();
    isTrue();
    checksum();
  }

  private static void due(String call, Object got, Object want) {
    CHECKS.due(call, got, want);
  }

  private static void dueOrders(String what, Twicebook x, String coming, String asking) {
    Books.dueOrders(CHECKS, what, x, coming, asking);
  }

  private static void newObject() {
    CHECKS.about("promise 1, a new object");
    Twicebook x = new Twicebook();
    due("size()", x.size(), 0);
    due("checksum()", x.checksum(), ((7L * 31 + 8) * 31 + 'c') * 31);
    due("isTrue()", x.isTrue(), true);
    due("moves()", x.moves(), 0);
    due("crossings()", x.crossings(), 0);
    CHECKS.dueThrow("step()", STATE, x::step);
    CHECKS.dueThrow("undo()", ABSENT, x::undo);
    for (int key = 0; key < 8; key++) {
      due("put(" + key + ", 0)", x.put(key, 0), -1);
    }
    x.get(0);
    due("put(8, 0), the ninth, by coming", x.put(8, 0), 0);
    due("way('c')", x.way('c'), 'c');
    due("size()", x.size(), 8);
  }

  private static void put() {
    CHECKS.about("promise 2, put");
    Twicebook x = Books.of(1, 2, 3);
    due("put(1, 11)", x.put(1, 11), -1);
    due("look(1)", x.look(1), 11);
    dueOrders("touched", x, "1 2 3", "2 3 1");
    x.limit(3);
    due("put(4, 40) by coming", x.put(4, 40), 1);
    dueOrders("1 went", x, "2 3 4", "2 3 4");
    x.get(2);
    x.way('a');
    due("put(5, 50) by asking", x.put(5, 50), 3);
    dueOrders("3 went", x, "2 4 5", "4 2 5");
    due("put(4, 1) at the limit", x.put(4, 1), -1);
    x.limit(1);
    due("put(9, 9) at the limit 1", x.put(9, 9), 4);
    dueOrders("only 9", x, "9", "9");
    due("put(0, least)", x.put(0, LEAST), 9);
    due("look(0)", x.look(0), LEAST);
    due("put(99, greatest)", x.put(99, GREATEST), 0);
    due("look(99)", x.look(99), GREATEST);
    for (int key : new int[] {-1, 100, LEAST, GREATEST}) {
      CHECKS.dueThrow("put(" + key + ", 0)", ILLEGAL, () -> x.put(key, 0));
    }
    Twicebook again = Books.of(1, 2);
    again.remove(1);
    again.put(1, 5);
    dueOrders("1 came in again", again, "2 1", "2 1");
  }

  private static void putIfAbsent() {
    CHECKS.about("promise 3, putIfAbsent");
    Twicebook x = Books.of(1, 2);
    due("putIfAbsent(1, 5)", x.putIfAbsent(1, 5), false);
    due("look(1)", x.look(1), 10);
    dueOrders("touched", x, "1 2", "2 1");
    due("putIfAbsent(3, 5)", x.putIfAbsent(3, 5), true);
    due("look(3)", x.look(3), 5);
    dueOrders("came in", x, "1 2 3", "2 1 3");
    x.limit(3);
    due("putIfAbsent(99, 0)", x.putIfAbsent(99, 0), true);
    dueOrders("1 went", x, "2 3 99", "2 3 99");
    for (int key : new int[] {-1, 100, LEAST, GREATEST}) {
      CHECKS.dueThrow("putIfAbsent(" + key + ", 0)", ILLEGAL, () -> x.putIfAbsent(key, 0));
    }
    due("putIfAbsent(0, 0)", x.putIfAbsent(0, 0), true);
  }

  private static void get() {
    CHECKS.about("promise 4, get");
    Twicebook x = Books.of(1, 2, 3);
    due("get(2)", x.get(2), 20);
    dueOrders("touched", x, "1 2 3", "1 3 2");
    due("get(2) again", x.get(2), 20);
    dueOrders("stood last", x, "1 2 3", "1 3 2");
    for (int key : new int[] {0, 4, -1, 100, LEAST, GREATEST}) {
      CHECKS.dueThrow("get(" + key + ")", ABSENT, () -> x.get(key));
    }
    dueOrders("nothing changed", x, "1 2 3", "1 3 2");
  }

  private static void getOr() {
    CHECKS.about("promise 5, getOr");
    Twicebook x = Books.of(1, 2, 3);
    due("getOr(1, 7)", x.getOr(1, 7), 10);
    dueOrders("touched", x, "1 2 3", "2 3 1");
    for (int key : new int[] {0, 4, -1, 100, LEAST, GREATEST}) {
      due("getOr(" + key + ", 7)", x.getOr(key, 7), 7);
    }
    due("size()", x.size(), 3);
    dueOrders("nothing changed", x, "1 2 3", "2 3 1");
  }

  private static void replace() {
    CHECKS.about("promise 6, replace");
    Twicebook x = Books.of(1, 2, 3);
    due("replace(1, 7)", x.replace(1, 7), true);
    due("look(1)", x.look(1), 7);
    dueOrders("touched", x, "1 2 3", "2 3 1");
    for (int key : new int[] {0, 4, -1, 100, LEAST, GREATEST}) {
      due("replace(" + key + ", 7)", x.replace(key, 7), false);
    }
    due("has(4)", x.has(4), false);
    due("size()", x.size(), 3);
  }

  private static void replaceIf() {
    CHECKS.about("promise 7, replaceIf");
    Twicebook x = Books.of(1, 2, 3);
    due("replaceIf(1, 9, 7)", x.replaceIf(1, 9, 7), false);
    due("look(1)", x.look(1), 10);
    dueOrders("not touched", x, "1 2 3", "1 2 3");
    due("replaceIf(1, 10, 7)", x.replaceIf(1, 10, 7), true);
    due("look(1)", x.look(1), 7);
    dueOrders("touched", x, "1 2 3", "2 3 1");
    for (int key : new int[] {0, 4, -1, 100, LEAST, GREATEST}) {
      due("replaceIf(" + key + ", 0, 7)", x.replaceIf(key, 0, 7), false);
    }
    due("size()", x.size(), 3);
  }

  private static void look() {
    CHECKS.about("promise 8, look");
    Twicebook x = Books.of(1, 2, 3);
    due("look(1)", x.look(1), 10);
    due("look(3)", x.look(3), 30);
    dueOrders("not touched", x, "1 2 3", "1 2 3");
    for (int key : new int[] {0, 4, -1, 100, LEAST, GREATEST}) {
      CHECKS.dueThrow("look(" + key + ")", ABSENT, () -> x.look(key));
    }
  }

  private static void has() {
    CHECKS.about("promise 9, has");
    Twicebook x = Books.of(1, 2, 0);
    due("has(1)", x.has(1), true);
    due("has(0)", x.has(0), true);
    dueOrders("not touched", x, "1 2 0", "1 2 0");
    for (int key : new int[] {3, -1, 100, LEAST, GREATEST}) {
      due("has(" + key + ")", x.has(key), false);
    }
    x.remove(1);
    due("has(1) once it is out", x.has(1), false);
  }

  private static void remove() {
    CHECKS.about("promise 10, remove");
    Twicebook x = Books.of(1, 2, 3);
    x.get(1);
    due("remove(2)", x.remove(2), 20);
    dueOrders("2 is out", x, "1 3", "3 1");
    for (int key : new int[] {0, 2, -1, 100, LEAST, GREATEST}) {
      CHECKS.dueThrow("remove(" + key + ")", ABSENT, () -> x.remove(key));
    }
    due("remove(1)", x.remove(1), 10);
    due("remove(3)", x.remove(3), 30);
    due("size()", x.size(), 0);
  }

  private static void size() {
    CHECKS.about("promise 11, size");
    Twicebook x = new Twicebook();
    due("size()", x.size(), 0);
    x.put(1, 1);
    x.put(2, 1);
    x.put(1, 2);
    due("size()", x.size(), 2);
    x.limit(12);
    for (int key = 10; key < 30; key++) {
      x.put(key, 0);
    }
    due("size()", x.size(), 12);
  }

  private static void limit() {
    CHECKS.about("promise 12, limit");
    Twicebook x = Books.of(1, 2, 3, 4, 5, 6, 7, 8, 9, 10, 11, 12);
    due("size()", x.size(), 12);
    x.get(1);
    due("limit(12)", x.limit(12), 0);
    due("limit(10)", x.limit(10), 2);
    dueOrders("1 and 2 went", x, "3 4 5 6 7 8 9 10 11 12", "3 4 5 6 7 8 9 10 11 12");
    x.get(3);
    x.get(4);
    x.way('a');
    due("limit(4)", x.limit(4), 6);
    dueOrders("the first six asked went", x, "3 4 11 12", "11 12 3 4");
    due("limit(1)", x.limit(1), 3);
    dueOrders("4 stays", x, "4", "4");
    for (int most : new int[] {0, 13, -1, LEAST, GREATEST}) {
      CHECKS.dueThrow("limit(" + most + ")", ILLEGAL, () -> x.limit(most));
    }
    due("limit(12)", x.limit(12), 0);
    due("size()", x.size(), 1);
    Twicebook once = Books.of(1, 2, 3);
    once.limit(1);
    once.undo();
    dueOrders("one change for all that go", once, "1 2 3", "1 2 3");
    due("put(4, 0) at the limit 12 again", once.put(4, 0), -1);
  }

  private static void way() {
    CHECKS.about("promise 13, way");
    Twicebook x = Books.of(1, 2, 3);
    due("way('a')", x.way('a'), 'c');
    due("way('a')", x.way('a'), 'a');
    due("way('c')", x.way('c'), 'a');
    for (char way : new char[] {'b', 'A', 'C', 0, '\uffff'}) {
      CHECKS.dueThrow("way(" + (int) way + ")", ILLEGAL, () -> x.way(way));
    }
    due("way('a') behind wrong ones", x.way('a'), 'c');
    x.limit(3);
    x.get(1);
    due("put(4, 0) by asking", x.put(4, 0), 2);
  }

  private static void keyAt() {
    CHECKS.about("promise 14, keyAt");
    Twicebook x = Books.of(5, 6, 7);
    x.get(5);
    due("keyAt('c', 0)", x.keyAt('c', 0), 5);
    due("keyAt('c', 2)", x.keyAt('c', 2), 7);
    due("keyAt('a', 0)", x.keyAt('a', 0), 6);
    due("keyAt('a', 2)", x.keyAt('a', 2), 5);
    for (int place : new int[] {-1, 3, 12, LEAST, GREATEST}) {
      CHECKS.dueThrow("keyAt('c', " + place + ")", BOUNDS, () -> x.keyAt('c', place));
      CHECKS.dueThrow("keyAt('a', " + place + ")", BOUNDS, () -> x.keyAt('a', place));
      CHECKS.dueThrow("keyAt('b', " + place + ")", ILLEGAL, () -> x.keyAt('b', place));
    }
    dueOrders("not touched", x, "5 6 7", "6 7 5");
  }

  private static void placeOf() {
    CHECKS.about("promise 15, placeOf");
    Twicebook x = Books.of(5, 6, 7);
    x.get(5);
    due("placeOf('c', 5)", x.placeOf('c', 5), 0);
    due("placeOf('a', 5)", x.placeOf('a', 5), 2);
    due("placeOf('a', 6)", x.placeOf('a', 6), 0);
    for (int key : new int[] {0, -1, 100, LEAST, GREATEST}) {
      CHECKS.dueThrow("placeOf('c', " + key + ")", ABSENT, () -> x.placeOf('c', key));
      CHECKS.dueThrow("placeOf('a', " + key + ")", ABSENT, () -> x.placeOf('a', key));
      CHECKS.dueThrow("placeOf('b', " + key + ")", ILLEGAL, () -> x.placeOf('b', key));
    }
    CHECKS.dueThrow("placeOf('b', 5)", ILLEGAL, () -> x.placeOf('b', 5));
  }

  private static void setAt() {
    CHECKS.about("promise 16, setAt");
    Twicebook x = Books.of(5, 6, 7);
    x.get(5);
    due("setAt('c', 0, 1)", x.setAt('c', 0, 1), 50);
    due("setAt('a', 0, 2)", x.setAt('a', 0, 2), 60);
    due("setAt('a', 2, 3)", x.setAt('a', 2, 3), 1);
    due("look(5)", x.look(5), 3);
    due("look(6)", x.look(6), 2);
    due("look(7)", x.look(7), 70);
    dueOrders("not touched", x, "5 6 7", "6 7 5");
    due("isTrue()", x.isTrue(), true);
    for (int place : new int[] {-1, 3, 12, LEAST, GREATEST}) {
      CHECKS.dueThrow("setAt('c', " + place + ", 0)", BOUNDS, () -> x.setAt('c', place, 0));
      CHECKS.dueThrow("setAt('a', " + place + ", 0)", BOUNDS, () -> x.setAt('a', place, 0));
      CHECKS.dueThrow("setAt('b', " + place + ", 0)", ILLEGAL, () -> x.setAt('b', place, 0));
    }
  }

  private static void removeAt() {
    CHECKS.about("promise 17, removeAt");
    Twicebook x = Books.of(5, 6, 7, 8);
    x.get(5);
    due("removeAt('a', 3)", x.removeAt('a', 3), 5);
    due("removeAt('c', 0)", x.removeAt('c', 0), 6);
    dueOrders("5 and 6 are out", x, "7 8", "7 8");
    for (int place : new int[] {-1, 2, 12, LEAST, GREATEST}) {
      CHECKS.dueThrow("removeAt('c', " + place + ")", BOUNDS, () -> x.removeAt('c', place));
      CHECKS.dueThrow("removeAt('a', " + place + ")", BOUNDS, () -> x.removeAt('a', place));
      CHECKS.dueThrow("removeAt('b', " + place + ")", ILLEGAL, () -> x.removeAt('b', place));
    }
    due("removeAt('c', 1)", x.removeAt('c', 1), 8);
    due("removeAt('a', 0)", x.removeAt('a', 0), 7);
    CHECKS.dueThrow("removeAt('a', 0)", BOUNDS, () -> x.removeAt('a', 0));
  }

  private static void thin() {
    CHECKS.about("promise 18, thin");
    Twicebook x = Books.of(0, 1, 2, 3, 4, 5, 6, 7, 8, 9, 10, 11);
    x.get(0);
    due("thin('c', 5)", x.thin('c', 5), 2);
    dueOrders("4 and 9 are out", x, "0 1 2 3 5 6 7 8 10 11", "1 2 3 5 6 7 8 10 11 0");
    due("thin('a', 3)", x.thin('a', 3), 3);
    dueOrders("3, 7 and 11 are out", x, "0 1 2 5 6 8 10", "1 2 5 6 8 10 0");
    due("thin('a', 8)", x.thin('a', 8), 0);
    due("thin('a', 7)", x.thin('a', 7), 1);
    dueOrders("0 is out", x, "1 2 5 6 8 10", "1 2 5 6 8 10");
    due("thin('c', 1)", x.thin('c', 1), 6);
    due("size()", x.size(), 0);
    due("thin('c', 1) of none", x.thin('c', 1), 0);
    x.undo();
    dueOrders("one change for all", x, "1 2 5 6 8 10", "1 2 5 6 8 10");
    for (int each : new int[] {0, 13, -1, LEAST, GREATEST}) {
      CHECKS.dueThrow("thin('c', " + each + ")", ILLEGAL, () -> x.thin('c', each));
      CHECKS.dueThrow("thin('b', " + each + ")", ILLEGAL, () -> x.thin('b', each));
    }
    CHECKS.dueThrow("thin('b', 1)", ILLEGAL, () -> x.thin('b', 1));
    Twicebook full = Books.of(0, 1, 2, 3, 4, 5, 6, 7, 8, 9, 10, 11);
    due("thin('a', 12)", full.thin('a', 12), 1);
    due("has(11)", full.has(11), false);
  }

  private static void walk() {
    CHECKS.about("promise 19, walk");
    Twicebook x = Books.of(1, 2, 3);
    x.get(1);
    due("walk('a')", x.walk('a'), 3);
    due("step()", x.step(), 2);
    due("walk('c')", x.walk('c'), 3);
    CHECKS.dueThrow("cut() of the new walk", STATE, x::cut);
    due("step() of the new walk", x.step(), 1);
    CHECKS.dueThrow("walk('b')", ILLEGAL, () -> x.walk('b'));
    due("step(), for the walk goes on", x.step(), 2);
    due("walk('a') of none", new Twicebook().walk('a'), 0);
  }

  private static void step() {
    CHECKS.about("promise 20, step");
    Twicebook x = Books.of(1, 2, 3);
    CHECKS.dueThrow("step() without a walk", STATE, x::step);
    x.get(2);
    x.walk('a');
    due("step()", x.step(), 1);
    due("step()", x.step(), 3);
    due("step()", x.step(), 2);
    CHECKS.dueThrow("step() behind all", ABSENT, x::step);
    CHECKS.dueThrow("step() behind all, again", ABSENT, x::step);
    dueOrders("not touched", x, "1 2 3", "1 3 2");
    x.put(4, 0);
    CHECKS.dueThrow("step() once it is over", STATE, x::step);
    Twicebook none = new Twicebook();
    none.walk('c');
    CHECKS.dueThrow("step() of none", ABSENT, none::step);
  }

  private static void cut() {
    CHECKS.about("promise 21, cut");
    Twicebook x = Books.of(1, 2, 3, 4);
    x.get(1);
    CHECKS.dueThrow("cut() without a walk", STATE, x::cut);
    x.walk('a');
    CHECKS.dueThrow("cut() ahead of a step", STATE, x::cut);
    x.step();
    due("step()", x.step(), 3);
    due("cut()", x.cut(), 3);
    CHECKS.dueThrow("cut() twice", STATE, x::cut);
    dueOrders("3 is out", x, "1 2 4", "2 4 1");
    due("step()", x.step(), 4);
    due("step()", x.step(), 1);
    CHECKS.dueThrow("step() behind all", ABSENT, x::step);
    due("cut() behind all", x.cut(), 2);
    CHECKS.dueThrow("step() behind all", ABSENT, x::step);
    CHECKS.dueThrow("cut() twice behind all", STATE, x::cut);
    dueOrders("1 is out", x, "2 4", "2 4");
    due("undo()", x.undo(), 7);
    dueOrders("1 is there again", x, "1 2 4", "2 4 1");
    CHECKS.dueThrow("step(), for undo ends the walk", STATE, x::step);
    Twicebook late = Books.of(1, 2);
    late.walk('c');
    late.step();
    late.look(1);
    late.walk('c');
    CHECKS.dueThrow("cut() of a walk begun anew", STATE, late::cut);
  }

  private interface Change {
    Object on(Twicebook x);
  }

  private static final String[] CHANGE_NAMES = {
    "put of a new key", "put of a key", "putIfAbsent of a new key", "putIfAbsent of a key", "get",
    "getOr", "replace", "replaceIf", "remove", "limit", "the same limit", "way", "the same way",
    "setAt", "removeAt", "thin", "get of the last", "replaceIf by the same value",
    "setAt of the same value", "replace by the same value", "put of the same value",
  };
  private static final Change[] CHANGES = {
    x -> x.put(9, 1), x -> x.put(2, 1), x -> x.putIfAbsent(9, 1), x -> x.putIfAbsent(2, 1),
    x -> x.get(2), x -> x.getOr(2, 0), x -> x.replace(2, 1), x -> x.replaceIf(2, 20, 1),
    x -> x.remove(2), x -> x.limit(2), x -> x.limit(12), x -> x.way('a'), x -> x.way('c'),
    x -> x.setAt('a', 1, 1), x -> x.removeAt('a', 1), x -> x.thin('a', 2), x -> x.get(3),
    x -> x.replaceIf(3, 30, 30), x -> x.setAt('c', 2, 30), x -> x.replace(3, 30),
    x -> x.put(3, 30),
  };

  private static void walkIsOver() {
    CHECKS.about("terms, a walk is over by any change but cut");
    for (int number = 0; number < CHANGES.length; number++) {
      Twicebook x = Books.of(1, 2, 3);
      x.walk('c');
      x.step();
      CHANGES[number].on(x);
      CHECKS.dueThrow("cut() behind " + CHANGE_NAMES[number], STATE, x::cut);
      CHECKS.dueThrow("step() behind " + CHANGE_NAMES[number], STATE, x::step);
    }
    Twicebook x = Books.of(1, 2, 3);
    x.walk('c');
    x.undo();
    CHECKS.dueThrow("step() behind undo", STATE, x::step);
  }

  private static final String[] QUIET_NAMES = {
    "put(100, 0)", "putIfAbsent(-1, 0)", "get(9)", "getOr(9, 0)", "replace(9, 0)",
    "replaceIf(9, 0, 0)", "replaceIf(2, 0, 1)", "look(2)", "look(9)", "has(2)", "remove(9)",
    "size()", "limit(0)", "limit(13)", "way('b')", "keyAt('c', 0)", "keyAt('a', 3)",
    "placeOf('a', 2)", "placeOf('a', 9)", "setAt('b', 0, 0)", "setAt('c', 3, 0)",
    "removeAt('a', 3)", "thin('c', 4)", "thin('a', 13)", "thin('b', 1)", "walk('b')", "moves()",
    "move(0)", "crossings()", "isTrue()", "checksum()",
  };
  private static final Change[] QUIET = {
    x -> x.put(100, 0), x -> x.putIfAbsent(-1, 0), x -> x.get(9), x -> x.getOr(9, 0),
    x -> x.replace(9, 0), x -> x.replaceIf(9, 0, 0), x -> x.replaceIf(2, 0, 1), x -> x.look(2),
    x -> x.look(9), x -> x.has(2), x -> x.remove(9), x -> x.size(), x -> x.limit(0),
    x -> x.limit(13), x -> x.way('b'), x -> x.keyAt('c', 0), x -> x.keyAt('a', 3),
    x -> x.placeOf('a', 2), x -> x.placeOf('a', 9), x -> x.setAt('b', 0, 0),
    x -> x.setAt('c', 3, 0), x -> x.removeAt('a', 3), x -> x.thin('c', 4), x -> x.thin('a', 13),
    x -> x.thin('b', 1), x -> x.walk('b'), x -> x.moves(), x -> x.move(0), x -> x.crossings(),
    x -> x.isTrue(), x -> x.checksum(),
  };

  private static void walkGoesOn() {
    CHECKS.about("terms, a walk goes on where nothing is changed");
    for (int number = 0; number < QUIET.length; number++) {
      Twicebook x = Books.of(1, 2, 3);
      x.walk('c');
      x.step();
      Change quiet = QUIET[number];
      Checks.outcome(() -> quiet.on(x));
      due("step() behind " + QUIET_NAMES[number], Checks.outcome(x::step), "2");
      due("cut() behind " + QUIET_NAMES[number], Checks.outcome(x::cut), "2");
    }
  }

  private static void moves() {
    CHECKS.about("promise 22, moves");
    Twicebook x = Books.of(1, 2, 3, 4);
    due("moves()", x.moves(), 0);
    x.get(4);
    due("moves() when the last was asked", x.moves(), 0);
    x.get(2);
    due("moves() of 1 3 4 2", x.moves(), 1);
    x.get(3);
    due("moves() of 1 4 2 3", x.moves(), 2);
    x.get(1);
    due("moves() of 4 2 3 1", x.moves(), 3);
    x.remove(4);
    due("moves() of 2 3 1", x.moves(), 1);
    dueOrders("not changed", x, "1 2 3", "2 3 1");
  }

  private static void move() {
    CHECKS.about("promise 23, move");
    Twicebook x = Books.of(1, 2, 3, 4);
    CHECKS.dueThrow("move(0) of none", BOUNDS, () -> x.move(0));
    x.get(2);
    x.get(3);
    due("move(0) of 1 4 2 3", x.move(0), 2);
    due("move(1) of 1 4 2 3", x.move(1), 3);
    for (int index : new int[] {-1, 2, 3, LEAST, GREATEST}) {
      CHECKS.dueThrow("move(" + index + ")", BOUNDS, () -> x.move(index));
    }
  }

  private static void crossings() {
    CHECKS.about("promise 24, crossings");
    Twicebook x = Books.of(1, 2, 3, 4);
    due("crossings()", x.crossings(), 0);
    x.get(3);
    due("crossings() of 1 2 4 3", x.crossings(), 1);
    x.get(1);
    due("crossings() of 2 4 3 1", x.crossings(), 4);
    x.get(4);
    x.get(3);
    x.get(2);
    x.get(1);
    due("crossings() of 4 3 2 1", x.crossings(), 6);
    x.remove(3);
    due("crossings() of 4 2 1", x.crossings(), 3);
  }

  private static void undo() {
    CHECKS.about("promise 25, undo");
    Twicebook x = new Twicebook();
    x.put(1, 10);
    x.put(2, 20);
    x.get(1);
    due("undo() of get", x.undo(), 2);
    dueOrders("as ahead of get", x, "1 2", "1 2");
    due("undo() of put", x.undo(), 1);
    due("has(2)", x.has(2), false);
    x.put(3, 30);
    due("undo() of another put", x.undo(), 1);
    due("undo() of the first", x.undo(), 0);
    due("size()", x.size(), 0);
    CHECKS.dueThrow("undo() of none", ABSENT, x::undo);
    Twicebook many = new Twicebook();
    for (int value = 0; value < 20; value++) {
      many.put(5, value);
    }
    for (int left = 7; left >= 0; left--) {
      due("undo()", many.undo(), left);
      due("look(5)", many.look(5), 11 + left);
    }
    CHECKS.dueThrow("undo() behind eight", ABSENT, many::undo);
    due("look(5) behind it", many.look(5), 11);
    Twicebook gone = Books.of(1, 2, 3);
    gone.limit(3);
    gone.get(1);
    gone.put(4, 40);
    gone.undo();
    dueOrders("the eldest is back at its places", gone, "1 2 3", "2 3 1");
    due("look(1)", gone.look(1), 10);
  }

  private static void undoOfEachChange() {
    CHECKS.about("terms, each change is kept");
    for (int number = 0; number < CHANGES.length; number++) {
      Twicebook x = Books.of(1, 2, 3);
      long before = x.checksum();
      CHANGES[number].on(x);
      due("undo() of " + CHANGE_NAMES[number], x.undo(), 4);
      due("checksum() behind it", x.checksum(), before);
      dueOrders(CHANGE_NAMES[number], x, "1 2 3", "1 2 3");
    }
  }

  private static void noChange() {
    CHECKS.about("terms, what changes nothing is not kept");
    for (int number = 0; number < QUIET.length; number++) {
      Twicebook x = Books.of(1, 2, 3);
      long before = x.checksum();
      Change quiet = QUIET[number];
      Checks.outcome(() -> quiet.on(x));
      due("checksum() behind " + QUIET_NAMES[number], x.checksum(), before);
      due("kept behind " + QUIET_NAMES[number], Books.kept(x), 4);
    }
    Twicebook walked = Books.of(1, 2, 3);
    walked.walk('a');
    walked.step();
    Checks.outcome(walked::step);
    due("kept behind walk and steps", Books.kept(walked), 4);
  }

  private static void isTrue() {
    CHECKS.about("promise 26, isTrue");
    Twicebook x = new Twicebook();
    due("isTrue()", x.isTrue(), true);
    x.put(1, 1);
    x.put(2, 2);
    x.put(3, 3);
    x.get(2);
    x.get(1);
    long before = x.checksum();
    due("isTrue()", x.isTrue(), true);
    due("checksum() behind isTrue()", x.checksum(), before);
    dueOrders("not changed", x, "1 2 3", "3 2 1");
    x.walk('a');
    x.step();
    x.cut();
    due("isTrue() behind cut()", x.isTrue(), true);
    x.limit(2);
    due("isTrue() at the limit", x.isTrue(), true);
    x.limit(1);
    due("isTrue() at the limit 1", x.isTrue(), true);
  }

  private static void checksum() {
    CHECKS.about("promise 27, checksum");
    Twicebook x = new Twicebook();
    due("checksum()", x.checksum(), 219294L);
    x.put(3, -5);
    x.put(4, LEAST);
    x.get(3);
    x.way('a');
    x.limit(5);
    long sum = 7;
    for (long part : new long[] {3, -5, 4, LEAST, 4, 3, 5, 'a', 5}) {
      sum = 31 * sum + part;
    }
    due("checksum()", x.checksum(), sum);
    Twicebook full = Books.of(0, 1, 2, 3, 4, 5, 6, 7, 8, 9, 10, 11);
    long round = 7;
    for (int key = 0; key < 12; key++) {
      round = 31 * (31 * round + key) + 10 * key;
    }
    for (int key = 0; key < 12; key++) {
      round = 31 * round + key;
    }
    due("checksum() that goes round", full.checksum(), ((round * 31 + 12) * 31 + 'c') * 31 + 8);
    full.walk('c');
    full.step();
    due("checksum() on a walk", full.checksum(), ((round * 31 + 12) * 31 + 'c') * 31 + 8);
  }
}
