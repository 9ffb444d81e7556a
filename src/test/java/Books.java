import java.util.LinkedHashMap;
import java.util.Map;
import java.util.NoSuchElementException;
import java.util.function.Consumer;
import java.util.function.Supplier;

/** What the tests of boundary cases share: books to begin with, and ways to read a book. */
final class Books {
  static final Class<IllegalArgumentException> ILLEGAL = IllegalArgumentException.class;
  static final Class<IllegalStateException> STATE = IllegalStateException.class;
  static final Class<IndexOutOfBoundsException> BOUNDS = IndexOutOfBoundsException.class;
  static final Class<NoSuchElementException> ABSENT = NoSuchElementException.class;
  static final int LEAST = Integer.MIN_VALUE;
  static final int GREATEST = Integer.MAX_VALUE;
  static final char[] ORDERS = {'c', 'a'};

  /** The signs beside 'c' and 'a', their capitals, and signs that end in the same eight bits. */
  static final char[] NO_ORDERS = {
    'b', 'd', '`', 'A', 'C', ' ', 0, 1, (char) ('a' + 256), (char) ('c' + 256), '\uffff',
  };
  static final int[] EDGE_VALUES = {LEAST, LEAST + 1, -1, 0, 1, GREATEST - 1, GREATEST};

  /** Keys that no book of these tests holds, some of them in the range and some out of it. */
  static final int[] ABSENT_KEYS = {50, 98, -1, -2, 100, 101, 256, 65536, LEAST, GREATEST};
  static final int[] KEYS_OUT_OF_RANGE = {-1, -2, 100, 101, 256, 65536, LEAST, GREATEST};

  /** Out of the range 1 to 12. */
  static final int[] NO_LIMITS = {0, -1, -12, 13, 14, 257, 65537, LEAST, GREATEST};

  private Books() {}

  /** A book of the limit 12 with these keys, each with ten times its key as value. */
  static Twicebook of(int... keys) {
    Twicebook x = new Twicebook();
    x.limit(12);
    for (int key : keys) {
      x.put(key, 10 * key);
    }
    return x;
  }

  /** As many entries as a book ever has: the keys 0 to 11. */
  static Twicebook ofTwelve() {
    return of(0, 1, 2, 3, 4, 5, 6, 7, 8, 9, 10, 11);
  }

  static Twicebook asked(Twicebook x, int... keys) {
    for (int key : keys) {
      x.get(key);
    }
    return x;
  }

  /** As far as a walk goes by this many steps. */
  static Twicebook walked(Twicebook x, char order, int steps) {
    x.walk(order);
    for (int step = 0; step < steps; step++) {
      x.step();
    }
    return x;
  }

  private static Twicebook walkedAndCut() {
    Twicebook x = walked(asked(of(1, 2, 3, 4), 1, 3), 'a', 2);
    x.cut();
    return x;
  }

  private static Twicebook nineChanges() {
    Twicebook x = new Twicebook();
    for (int key = 1; key <= 9; key++) {
      x.put(key, -key);
    }
    return x;
  }

  private static Twicebook fullByAsking() {
    Twicebook x = asked(of(1, 2, 3), 2, 1);
    x.limit(3);
    x.way('a');
    return x;
  }

  private static Twicebook undone() {
    Twicebook x = nineChanges();
    x.undo();
    x.undo();
    return x;
  }

  /** Books in each state that a boundary sentence may depend on; each call of one makes it anew. */
  static Map<String, Supplier<Twicebook>> states() {
    Map<String, Supplier<Twicebook>> states = new LinkedHashMap<>();
    states.put("a new book", Twicebook::new);
    states.put("one entry", () -> of(7));
    states.put("four entries", () -> asked(of(1, 2, 3, 4), 1, 3));
    states.put("twelve entries", () -> asked(ofTwelve(), 4, 0));
    states.put("full by asking", Books::fullByAsking);
    states.put("nine changes", Books::nineChanges);
    states.put("two undone", Books::undone);
    states.put("a walk begun", () -> walked(asked(of(1, 2, 3, 4), 1, 3), 'a', 0));
    states.put("a walk over two", () -> walked(asked(of(1, 2, 3, 4), 1, 3), 'c', 2));
    states.put("a walk over all", () -> walked(asked(of(1, 2, 3, 4), 1, 3), 'a', 4));
    states.put("a walk of none", () -> walked(new Twicebook(), 'c', 0));
    states.put("a walk that cut", Books::walkedAndCut);
    return states;
  }

  static String keys(Twicebook x, char order) {
    StringBuilder text = new StringBuilder();
    for (int place = 0; place < x.size(); place++) {
      text.append(place == 0 ? "" : " ").append(x.keyAt(order, place));
    }
    return text.toString();
  }

  /** All that calls tell which change nothing. */
  static String told(Twicebook x) {
    StringBuilder text = new StringBuilder();
    text.append("size ").append(x.size()).append(", coming");
    for (int place = 0; place < x.size(); place++) {
      int key = x.keyAt('c', place);
      text.append(' ').append(key).append('=').append(x.look(key));
    }
    text.append(", asking ").append(keys(x, 'a')).append(", moves");
    for (int index = 0; index < x.moves(); index++) {
      text.append(' ').append(x.move(index));
    }
    text.append(", crossings ").append(x.crossings()).append(", sum ").append(x.checksum());
    return text.append(x.isTrue() ? "" : ", not true").append('\n').toString();
  }

  /** Where the walk stands, told by the rest of it; nothing is cut. */
  static String restOfWalk(Twicebook x) {
    StringBuilder text = new StringBuilder("steps");
    String step = "";
    for (int count = 0; count < 14 && !step.startsWith("throws."); count++) {
      step = Checks.outcome(x::step);
      text.append(' ').append(step);
    }
    return text.append('\n').toString();
  }

  /** What is kept, told by undoing all of it. */
  static String past(Twicebook x) {
    StringBuilder text = new StringBuilder();
    String undone = "";
    for (int count = 0; count < 10 && !undone.startsWith("throws."); count++) {
      undone = Checks.outcome(x::undo);
      text.append("undo ").append(undone).append(": ").append(told(x));
    }
    return text.toString();
  }

  /** The limit and the way, told by letting entries come in until one goes. */
  static String limitAndWay(Twicebook x) {
    int key = 60;
    while (key < 73 && x.put(key, 0) == -1) {
      key++;
    }
    return "limit " + x.size() + ", way " + x.way('c');
  }

  /** All that there is to tell of a book; it is used up by it. */
  static String story(Twicebook x) {
    return told(x) + restOfWalk(x) + past(x) + limitAndWay(x);
  }

  private static String storyBehindCut(Twicebook x) {
    return "cut " + Checks.outcome(x::cut) + "\n" + told(x) + restOfWalk(x);
  }

  /** Stops above what may be kept, so that a test fails and does not hang if undo() never ends. */
  static int kept(Twicebook x) {
    int count = 0;
    while (count < 20 && !Checks.outcome(x::undo).startsWith("throws.")) {
      count++;
    }
    return count;
  }

  static void dueOrders(Checks c, String what, Twicebook x, String coming, String asking) {
    c.due(what + ": order of coming", keys(x, 'c'), coming);
    c.due(what + ": order of asking", keys(x, 'a'), asking);
  }

  /** That a call leaves this book as it was: what it tells, its walk, and what it keeps. */
  static void dueUnchanged(
      Checks c, String call, Supplier<Twicebook> state, Consumer<Twicebook> body) {
    Twicebook behind = state.get();
    body.accept(behind);
    c.due("the story behind " + call, story(behind), story(state.get()));
    Twicebook another = state.get();
    body.accept(another);
    c.due("the walk behind " + call, storyBehindCut(another), storyBehindCut(state.get()));
  }

  interface Call {
    Object on(Twicebook x);
  }

  /** That a call throws this, and changes nothing by it, in each of the states. */
  static void dueRefused(Checks c, String call, Class<? extends Exception> want, Call body) {
    states().forEach((name, state) -> dueRefusedOn(c, call + " on " + name, state, want, body));
  }

  static void dueRefusedOn(
      Checks c,
      String call,
      Supplier<Twicebook> state,
      Class<? extends Exception> want,
      Call body) {
    c.dueThrow(call, want, () -> body.on(state.get()));
    dueUnchanged(c, call, state, x -> Checks.outcome(() -> body.on(x)));
  }

  /** That a call answers this, and is no change, in each of the states. */
  static void dueQuiet(Checks c, String call, Object want, Call body) {
    states()
        .forEach(
            (name, state) -> {
              c.due(call + " on " + name, body.on(state.get()), want);
              dueUnchanged(c, call + " on " + name, state, body::on);
            });
  }

  /** That a call changes this book: one more is kept than before, and the walk is over. */
  static void dueChange(Checks c, String call, Supplier<Twicebook> state, Call body) {
    Twicebook behind = state.get();
    body.on(behind);
    c.due("kept behind " + call, kept(behind), Math.min(8, kept(state.get()) + 1));
    Twicebook undone = state.get();
    body.on(undone);
    undone.undo();
    c.due("the book behind undo() of " + call, book(undone), book(state.get()));
    Twicebook walking = walked(state.get(), 'c', 0);
    body.on(walking);
    c.dueThrow("step() behind " + call, STATE, walking::step);
  }

  /** Without the checksum, which tells how many changes are kept too. */
  private static String book(Twicebook x) {
    return told(x).replaceAll(", sum -?[0-9]+", "") + limitAndWay(x);
  }
}
