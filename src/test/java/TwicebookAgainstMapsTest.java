import java.util.Random;

/** Long runs of calls on the program and on MapsBook, whose answers must be the same. */
public final class TwicebookAgainstMapsTest {
  private static final int CALLS_OF_AN_OBJECT = 512;
  private static final int[] ODD_NUMBERS = {
    -1, 100, 101, 12, 13, Integer.MIN_VALUE, Integer.MAX_VALUE, 99, 50,
  };
  private static final char[] ODD_SIGNS = {'b', 'A', 'C', 0, '\uffff'};
  private static final int KINDS = 27;

  private final Checks checks = new Checks();
  private final Random random;
  private final Twicebook program = new Twicebook();
  private final MapsBook maps = new MapsBook();
  private final int keysInUse;
  private final int calmness;

  private TwicebookAgainstMapsTest(int seed) {
    random = new Random(seed);
    keysInUse = 3 + seed % 18;
    calmness = 1 + seed % 6;
    checks.about("seed " + seed);
  }

  public static void main(String[] args) {
    Checks all = new Checks();
    all.about("runs of calls");
    for (int seed = 1; seed <= 1500 && all.wrong() < 5; seed++) {
      TwicebookAgainstMapsTest run = new TwicebookAgainstMapsTest(seed);
      run.play(seed % 2 == 0);
      all.due("wrong answers of seed " + seed, run.checks.wrong(), 0);
    }
    all.end();
  }

  private void play(boolean lookAtAllAround) {
    for (int call = 0; call < CALLS_OF_AN_OBJECT && checks.wrong() == 0; call++) {
      playOne("call " + call + ": ");
      if (lookAtAllAround) {
        lookAround("behind call " + call + ": ");
      }
    }
    if (checks.wrong() == 0) {
      lookAround("at the end: ");
    }
  }

  private int number() {
    if (random.nextInt(12) == 0) {
      return ODD_NUMBERS[random.nextInt(ODD_NUMBERS.length)];
    }
    return random.nextInt(keysInUse);
  }

  private char sign() {
    if (random.nextInt(20) == 0) {
      return ODD_SIGNS[random.nextInt(ODD_SIGNS.length)];
    }
    return random.nextBoolean() ? 'c' : 'a';
  }

  private int kind() {
    boolean goOnWithWalk = random.nextInt(6) < calmness;
    return goOnWithWalk && random.nextInt(3) == 0 ? 19 + random.nextInt(2) : random.nextInt(KINDS);
  }

  private void playOne(String about) {
    int kind = kind();
    if (kind < 10) {
      playEntries(about, kind);
    } else if (kind < 18) {
      playOrders(about, kind);
    } else {
      playOthers(about, kind);
    }
  }

  private void same(String call, String got, String want) {
    checks.due(call, got, want);
  }

  private void playEntries(String about, int kind) {
    int key = number();
    int other = random.nextInt(4) == 0 ? random.nextInt() : random.nextInt(3);
    int value = random.nextInt(4) == 0 ? random.nextInt() : random.nextInt(3);
    String told = about + "kind " + kind + " (" + key + ", " + other + ", " + value + ")";
    same(
        told,
        Checks.outcome(
            () ->
                switch (kind) {
                  case 0, 1 -> program.put(key, value);
                  case 2 -> program.putIfAbsent(key, value);
                  case 3 -> program.get(key);
                  case 4 -> program.getOr(key, other);
                  case 5 -> program.replace(key, value);
                  case 6 -> program.replaceIf(key, other, value);
                  case 7 -> program.look(key);
                  case 8 -> program.has(key);
                  default -> program.remove(key);
                }),
        Checks.outcome(
            () ->
                switch (kind) {
                  case 0, 1 -> maps.put(key, value);
                  case 2 -> maps.putIfAbsent(key, value);
                  case 3 -> maps.get(key);
                  case 4 -> maps.getOr(key, other);
                  case 5 -> maps.replace(key, value);
                  case 6 -> maps.replaceIf(key, other, value);
                  case 7 -> maps.look(key);
                  case 8 -> maps.has(key);
                  default -> maps.remove(key);
                }));
  }

  private void playOrders(String about, int kind) {
    char order = sign();
    int place = number();
    int value = random.nextInt(3);
    String told = about + "kind " + kind + " (" + (int) order + ", " + place + ", " + value + ")";
    same(
        told,
        Checks.outcome(
            () ->
                switch (kind) {
                  case 10 -> program.keyAt(order, place);
                  case 11 -> program.placeOf(order, place);
                  case 12 -> program.setAt(order, place, value);
                  case 13 -> program.removeAt(order, place);
                  case 14 -> program.thin(order, place);
                  case 15 -> program.limit(place);
                  case 16 -> (int) program.way(order);
                  default -> program.size();
                }),
        Checks.outcome(
            () ->
                switch (kind) {
                  case 10 -> maps.keyAt(order, place);
                  case 11 -> maps.placeOf(order, place);
                  case 12 -> maps.setAt(order, place, value);
                  case 13 -> maps.removeAt(order, place);
                  case 14 -> maps.thin(order, place);
                  case 15 -> maps.limit(place);
                  case 16 -> (int) maps.way(order);
                  default -> maps.size();
                }));
  }

  private void playOthers(String about, int kind) {
    char order = sign();
    int index = number();
    String told = about + "kind " + kind + " (" + (int) order + ", " + index + ")";
    same(
        told,
        Checks.outcome(
            () ->
                switch (kind) {
                  case 18 -> program.walk(order);
                  case 19 -> program.step();
                  case 20 -> program.cut();
                  case 21 -> program.moves();
                  case 22 -> program.move(index);
                  case 23 -> program.crossings();
                  case 24 -> program.undo();
                  case 25 -> program.isTrue();
                  default -> program.checksum();
                }),
        Checks.outcome(
            () ->
                switch (kind) {
                  case 18 -> maps.walk(order);
                  case 19 -> maps.step();
                  case 20 -> maps.cut();
                  case 21 -> maps.moves();
                  case 22 -> maps.move(index);
                  case 23 -> maps.crossings();
                  case 24 -> maps.undo();
                  case 25 -> maps.isTrue();
                  default -> maps.checksum();
                }));
  }

  private void lookAround(String about) {
    same(about + "size()", "" + program.size(), "" + maps.size());
    same(about + "checksum()", "" + program.checksum(), "" + maps.checksum());
    same(about + "isTrue()", "" + program.isTrue(), "true");
    same(about + "isTrue() of the maps", "" + maps.isTrue(), "true");
    same(about + "moves()", "" + program.moves(), "" + maps.moves());
    same(about + "crossings()", "" + program.crossings(), "" + maps.crossings());
    for (int place = -1; place <= maps.size(); place++) {
      lookAtPlace(about, place);
    }
  }

  private void lookAtPlace(String about, int at) {
    same(
        about + "move(" + at + ")",
        Checks.outcome(() -> program.move(at)),
        Checks.outcome(() -> maps.move(at)));
    for (char order : new char[] {'c', 'a'}) {
      String key = Checks.outcome(() -> maps.keyAt(order, at));
      same(
          about + "keyAt(" + order + ", " + at + ")",
          Checks.outcome(() -> program.keyAt(order, at)),
          key);
      if (!key.startsWith("throws.")) {
        int told = Integer.parseInt(key);
        same(about + "placeOf", "" + program.placeOf(order, told), "" + at);
        same(about + "look(" + key + ")", "" + program.look(told), "" + maps.look(told));
      }
    }
  }
}
