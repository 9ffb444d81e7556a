/** The boundary cases of the promises 22 to 27: the moves, what is kept, and the sum over all. */
final class PastBounds {
  private PastBounds() {}

  /** Twelve keys, in the order of asking the other way round. */
  private static Twicebook turnedRound() {
    return Books.asked(Books.ofTwelve(), 11, 10, 9, 8, 7, 6, 5, 4, 3, 2, 1, 0);
  }

  private static Twicebook walkedThree() {
    return Books.walked(Books.asked(Books.of(1, 2, 3), 2, 1), 'a', 1);
  }

  @Says("Returns how many moves there are.")
  static void promise22FromNoneToEleven(Checks c) {
    c.due("moves() of none", new Twicebook().moves(), 0);
    c.due("moves() of one", Books.of(5).moves(), 0);
    c.due("moves() of the same order", Books.ofTwelve().moves(), 0);
    c.due("moves(), the last one asked", Books.asked(Books.ofTwelve(), 11).moves(), 0);
    c.due("moves(), the first one asked", Books.asked(Books.ofTwelve(), 0).moves(), 1);
    c.due("moves() the other way round", turnedRound().moves(), 11);
    Twicebook lastAhead = Books.asked(Books.ofTwelve(), 0, 1, 2, 3, 4, 5, 6, 7, 8, 9, 10);
    c.due("moves(), the last one ahead", lastAhead.moves(), 11);
    Twicebook all = Books.asked(Books.ofTwelve(), 0, 1, 2, 3, 4, 5, 6, 7, 8, 9, 10, 11);
    c.due("moves() when all were asked in their order", all.moves(), 0);
  }

  @Says("Returns how many.")
  static void promise22IsNoChange(Checks c) {
    Books.dueUnchanged(c, "moves()", PastBounds::walkedThree, Twicebook::moves);
  }

  @Says("Returns a move.")
  static void promise23FirstLastAndOnlyMove(Checks c) {
    c.due("move(0), the only one", Books.asked(Books.ofTwelve(), 0).move(0), 0);
    Twicebook x = turnedRound();
    for (int index = 0; index < 11; index++) {
      c.due("move(" + index + ")", x.move(index), 10 - index);
    }
    Books.dueUnchanged(c, "move(0)", PastBounds::walkedThree, y -> y.move(0));
  }

  @Says("Returns the key.")
  static void promise23LeastAndGreatestKey(Checks c) {
    c.due("move(0)", Books.asked(Books.of(0, 99), 0).move(0), 0);
    c.due("move(0)", Books.asked(Books.of(99, 0), 99).move(0), 99);
  }

  @Says("`index`: its number, from 0")
  static void promise23IndexOfTheFirstIsZero(Checks c) {
    Twicebook x = Books.asked(Books.of(1, 2, 3), 2, 1);
    c.due("move(0)", x.move(0), 2);
    c.due("move(1)", x.move(1), 1);
  }

  @Says("Throws `IndexOutOfBoundsException` if there is no such move")
  static void promise23IndexTooSmallAndTooLarge(Checks c) {
    for (int index : new int[] {-1, -2, 12, 65536, Books.LEAST, Books.GREATEST}) {
      Books.dueRefused(c, "move(" + index + ")", Books.BOUNDS, x -> x.move(index));
    }
    Books.dueRefused(c, "move(moves())", Books.BOUNDS, x -> x.move(x.moves()));
    c.dueThrow("move(11) of eleven", Books.BOUNDS, () -> turnedRound().move(11));
    c.dueThrow("move(0) of none", Books.BOUNDS, () -> Books.ofTwelve().move(0));
    int behind = Books.GREATEST - 10;
    c.dueThrow("move(" + behind + ")", Books.BOUNDS, () -> turnedRound().move(behind));
  }

  @Says("Returns how many pairs of keys stand the other way round")
  static void promise24FromNoneToSixtySix(Checks c) {
    c.due("crossings() of none", new Twicebook().crossings(), 0);
    c.due("crossings() of one", Books.of(5).crossings(), 0);
    c.due("crossings() of the same order", Books.ofTwelve().crossings(), 0);
    c.due("crossings() of one pair", Books.asked(Books.of(1, 2), 1).crossings(), 1);
    c.due("crossings(), the last two", Books.asked(Books.ofTwelve(), 10).crossings(), 1);
    c.due("crossings(), the first one asked", Books.asked(Books.ofTwelve(), 0).crossings(), 11);
    c.due("crossings() the other way round", turnedRound().crossings(), 66);
  }

  @Says("Returns how many.")
  static void promise24IsNoChange(Checks c) {
    Books.dueUnchanged(c, "crossings()", PastBounds::walkedThree, Twicebook::crossings);
  }

  @Says("Brings the book back as it was ahead of the latest change that is kept.")
  static void promise25AheadOfTheLatestChange(Checks c) {
    Twicebook x = Books.asked(Books.of(1, 2, 3), 1);
    x.limit(3);
    x.way('a');
    x.put(4, 40);
    x.undo();
    Books.dueOrders(c, "the one that went is at its places", x, "1 2 3", "2 3 1");
    c.due("look(2)", x.look(2), 20);
    x.undo();
    c.due("put(4, 40) by coming again", x.put(4, 40), 1);
    x.undo();
    x.undo();
    c.due("put(4, 40) at the limit 12 again", x.put(4, 40), -1);
    x.thin('c', 1);
    x.undo();
    Books.dueOrders(c, "all are back", x, "1 2 3 4", "2 3 1 4");
  }

  @Says("the latest change that is kept")
  static void promise25UndoneAndChangedAgainRoundTheEight(Checks c) {
    Twicebook x = new Twicebook();
    int value = 0;
    for (int turn = 0; turn < 30; turn++) {
      for (int change = 0; change < 5; change++) {
        x.put(1, ++value);
      }
      for (int back = 0; back < 3; back++) {
        x.undo();
        value--;
        c.due("look(1) in turn " + turn, x.look(1), value);
      }
    }
    c.due("kept", Books.kept(x), 5);
    c.due("look(1), for the ones ahead are forgotten", x.look(1), value - 5);
  }

  @Says("Returns how many are kept then.")
  static void promise25FromSevenToNone(Checks c) {
    for (int changes = 1; changes <= 20; changes++) {
      Twicebook x = new Twicebook();
      for (int value = 1; value <= changes; value++) {
        x.put(1, value);
      }
      for (int left = Math.min(changes, 8) - 1; left >= 0; left--) {
        c.due("undo() behind " + changes + " changes", x.undo(), left);
      }
      c.dueThrow("undo() of none behind " + changes, Books.ABSENT, x::undo);
    }
  }

  @Says("Throws `NoSuchElementException` if none is kept")
  static void promise25NoneIsKept(Checks c) {
    Books.dueRefusedOn(c, "undo()", Twicebook::new, Books.ABSENT, Twicebook::undo);
    Books.dueRefusedOn(
        c, "undo() on a walk", () -> Books.walked(new Twicebook(), 'a', 0), Books.ABSENT,
        Twicebook::undo);
    Books.dueRefusedOn(
        c, "undo() behind eight", PastBounds::walkedBehindEight, Books.ABSENT, Twicebook::undo);
  }

  /** Nothing is kept, and yet there are entries and a walk. */
  private static Twicebook walkedBehindEight() {
    Twicebook x = Books.ofTwelve();
    Books.kept(x);
    return Books.walked(x, 'c', 2);
  }

  @Says({"not more than the limit", "Returns whether it is so."})
  static void promise26FromNoneToAsManyAsTheLimit(Checks c) {
    Books.states().forEach((name, state) -> c.due(name, state.get().isTrue(), true));
    for (int most = 1; most <= 12; most++) {
      Twicebook x = turnedRound();
      x.limit(most);
      c.due("isTrue() at the limit " + most, x.isTrue(), true);
      x.put(50, 0);
      c.due("isTrue() behind one more", x.isTrue(), true);
      x.undo();
      c.due("isTrue() behind undo()", x.isTrue(), true);
    }
  }

  @Says("asked for the moves, has the order of asking")
  static void promise26WithNoneAndWithElevenMoves(Checks c) {
    c.due("isTrue() with none", Books.ofTwelve().isTrue(), true);
    c.due("isTrue() with one", Books.asked(Books.ofTwelve(), 0).isTrue(), true);
    c.due("isTrue() with eleven", turnedRound().isTrue(), true);
  }

  @Says("Checks the theorem as far as it can be played")
  static void promise26IsNoChange(Checks c) {
    Books.dueQuiet(c, "isTrue()", true, Twicebook::isTrue);
  }

  @Says("with the same values")
  static void promise26WithLeastAndGreatestValues(Checks c) {
    Twicebook x = new Twicebook();
    for (int key = 0; key < Books.EDGE_VALUES.length; key++) {
      x.put(key, Books.EDGE_VALUES[key]);
    }
    Books.asked(x, 3, 1);
    c.due("isTrue()", x.isTrue(), true);
  }

  @Says("Returns 7 at first")
  static void promise27OfANewBook(Checks c) {
    c.due("checksum()", new Twicebook().checksum(), sum(8, 'c', 0));
    c.due("checksum()", new Twicebook().checksum(), 219294L);
  }

  private static long sum(long... parts) {
    long sum = 7;
    for (long part : parts) {
      sum = 31 * sum + part;
    }
    return sum;
  }

  @Says(
      "for each entry in the order of coming, 31 times itself plus the key, and 31 times "
          + "itself plus the value; then, for each in the order of asking, 31 times itself plus the"
          + " key; then likewise the limit, the code of the way, and how many changes are kept.")
  static void promise27EachPartCounts(Checks c) {
    Twicebook x = Books.asked(Books.of(5, 6), 5);
    c.due("checksum()", x.checksum(), sum(5, 50, 6, 60, 6, 5, 12, 'c', 4));
    x.setAt('a', 0, 61);
    c.due("checksum()", x.checksum(), sum(5, 50, 6, 61, 6, 5, 12, 'c', 5));
    x.way('a');
    c.due("checksum()", x.checksum(), sum(5, 50, 6, 61, 6, 5, 12, 'a', 6));
    x.limit(1);
    c.due("checksum()", x.checksum(), sum(5, 50, 5, 1, 'a', 7));
    x.remove(5);
    c.due("checksum()", x.checksum(), sum(1, 'a', 8));
  }

  @Says("a long that goes round")
  static void promise27GoesRound(Checks c) {
    for (int value : Books.EDGE_VALUES) {
      Twicebook x = Books.of();
      long[] parts = new long[12 * 3 + 3];
      for (int key = 0; key < 12; key++) {
        x.put(88 + key, value);
        parts[2 * key] = 88 + key;
        parts[2 * key + 1] = value;
        parts[24 + key] = 88 + key;
      }
      parts[36] = 12;
      parts[37] = 'c';
      parts[38] = 8;
      c.due("checksum() of twelve times " + value, x.checksum(), sum(parts));
    }
    Twicebook one = new Twicebook();
    one.put(0, Books.LEAST);
    c.due("checksum()", one.checksum(), sum(0, Books.LEAST, 0, 8, 'c', 1));
    one.put(0, Books.GREATEST);
    c.due("checksum()", one.checksum(), sum(0, Books.GREATEST, 0, 8, 'c', 2));
  }

  @Says("how many changes are kept")
  static void promise27KeptFromNoneToEight(Checks c) {
    Twicebook x = new Twicebook();
    for (int change = 1; change <= 10; change++) {
      x.way('c');
      c.due("checksum()", x.checksum(), sum(8, 'c', Math.min(change, 8)));
    }
    for (int left = 7; left >= 0; left--) {
      x.undo();
      c.due("checksum()", x.checksum(), sum(8, 'c', left));
    }
  }

  @Says("Returns a sum over all")
  static void promise27IsNoChangeAndNoSumOfTheWalk(Checks c) {
    Books.dueUnchanged(c, "checksum()", PastBounds::walkedThree, Twicebook::checksum);
    Twicebook x = Books.asked(Books.of(1, 2, 3), 2, 1);
    c.due("checksum() on a walk", walkedThree().checksum(), x.checksum());
  }
}
