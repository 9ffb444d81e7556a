import java.util.NoSuchElementException;

/**
 * A book of entries in two orders, that of coming in and that of asking, with a limit, a walk, and
 * the last eight changes kept for undoing.
 */
public final class Twicebook {
  private static final int KEYS = 100;
  private static final int HIGHEST_LIMIT = 12;
  private static final int FIRST_LIMIT = 8;
  private static final int MOST_KEPT = 8;
  private static final int NONE = -1;
  private static final char COMING = 'c';
  private static final char ASKING = 'a';

  private final Page book;
  private final Past past;
  private final Tour tour;
  private final Row trial;

  public Twicebook() {
    book = new Page();
    past = new Past();
    tour = new Tour();
    trial = new Row();
  }

  // ---- entries

  public int put(int key, int value) throws IllegalArgumentException {
    refuseKeyOutOfRange(key);
    beginChange();
    if (book.holds(key)) {
      book.giveKey(key, value);
      book.touch(key);
      return NONE;
    }
    return book.letIn(key, value);
  }

  public boolean putIfAbsent(int key, int value) throws IllegalArgumentException {
    refuseKeyOutOfRange(key);
    beginChange();
    if (book.holds(key)) {
      book.touch(key);
      return false;
    }
    book.letIn(key, value);
    return true;
  }

  public int get(int key) throws NoSuchElementException {
    refuseAbsentKey(key);
    beginChange();
    book.touch(key);
    return book.valueOf(key);
  }

  public int getOr(int key, int other) {
    if (!book.holds(key)) {
      return other;
    }
    beginChange();
    book.touch(key);
    return book.valueOf(key);
  }

  public boolean replace(int key, int value) {
    if (!book.holds(key)) {
      return false;
    }
    beginChange();
    book.giveKey(key, value);
    book.touch(key);
    return true;
  }

  public boolean replaceIf(int key, int before, int value) {
    if (!book.holds(key) || book.valueOf(key) != before) {
      return false;
    }
    beginChange();
    book.giveKey(key, value);
    book.touch(key);
    return true;
  }

  public int look(int key) throws NoSuchElementException {
    refuseAbsentKey(key);
    return book.valueOf(key);
  }

  public boolean has(int key) {
    return book.holds(key);
  }

  public int remove(int key) throws NoSuchElementException {
    refuseAbsentKey(key);
    int value = book.valueOf(key);
    beginChange();
    book.takeOut(key);
    return value;
  }

  public int size() {
    return book.coming.count();
  }

  public int limit(int most) throws IllegalArgumentException {
    if (most < 1 || most > HIGHEST_LIMIT) {
      throw new IllegalArgumentException("the limit is out of range");
    }
    beginChange();
    book.most = most;
    return book.dropWhatIsOver();
  }

  public char way(char way) throws IllegalArgumentException {
    refuseUnknownOrder(way);
    char before = book.eldestBy;
    beginChange();
    book.eldestBy = way;
    return before;
  }

  // ---- orders

  public int keyAt(char order, int place)
      throws IllegalArgumentException, IndexOutOfBoundsException {
    refuseUnknownOrder(order);
    refuseUnknownPlace(place);
    return book.row(order).keyIn(place);
  }

  public int placeOf(char order, int key)
      throws IllegalArgumentException, NoSuchElementException {
    refuseUnknownOrder(order);
    refuseAbsentKey(key);
    return book.row(order).find(key);
  }

  public int setAt(char order, int place, int value)
      throws IllegalArgumentException, IndexOutOfBoundsException {
    refuseUnknownOrder(order);
    refuseUnknownPlace(place);
    Row row = book.row(order);
    int before = row.valueIn(place);
    beginChange();
    book.giveKey(row.keyIn(place), value);
    return before;
  }

  public int removeAt(char order, int place)
      throws IllegalArgumentException, IndexOutOfBoundsException {
    refuseUnknownOrder(order);
    refuseUnknownPlace(place);
    int key = book.row(order).keyIn(place);
    beginChange();
    book.takeOut(key);
    return key;
  }

  public int thin(char order, int each) throws IllegalArgumentException {
    refuseUnknownOrder(order);
    if (each < 1 || each > HIGHEST_LIMIT) {
      throw new IllegalArgumentException("the number is out of range");
    }
    if (each > book.coming.count()) {
      return 0;
    }
    beginChange();
    return book.takeOutEach(order, each);
  }

  // ---- walks

  public int walk(char order) throws IllegalArgumentException {
    refuseUnknownOrder(order);
    tour.begin(order);
    return book.coming.count();
  }

  public int step() throws IllegalStateException, NoSuchElementException {
    if (!tour.isOn()) {
      throw new IllegalStateException("there is no walk");
    }
    int place = tour.nextPlace();
    if (!book.row(tour.order()).holdsPlace(place)) {
      throw new NoSuchElementException("the walk has gone over all");
    }
    tour.goOver();
    return book.row(tour.order()).keyIn(place);
  }

  public int cut() throws IllegalStateException {
    if (!tour.isOn() || !tour.mayCut()) {
      throw new IllegalStateException("there is nothing to cut");
    }
    past.keep(book);
    book.takeOut(book.row(tour.order()).keyIn(tour.nextPlace() - 1));
    tour.goBack();
    return book.coming.count();
  }

  // ---- moves

  public int moves() {
    return book.coming.count() - book.staying();
  }

  public int move(int index) throws IndexOutOfBoundsException {
    int staying = book.staying();
    if (index < 0 || index >= book.coming.count() - staying) {
      throw new IndexOutOfBoundsException("there is no such move");
    }
    return book.asking.keyIn(staying + index);
  }

  public int crossings() {
    return book.crossedPairs();
  }

  // ---- the past, all

  public int undo() throws NoSuchElementException {
    if (past.kept() == 0) {
      throw new NoSuchElementException("no change is kept");
    }
    tour.end();
    past.bringBack(book);
    return past.kept();
  }

  public boolean isTrue() {
    return book.coming.tellsAlike()
        && book.asking.tellsAlike()
        && book.coming.hasEntriesOf(book.asking)
        && book.asking.hasEntriesOf(book.coming)
        && book.coming.count() <= book.most
        && movesGiveAsking();
  }

  public long checksum() {
    long sum = 7;
    for (int place = 0; place < book.coming.count(); place++) {
      sum = sum * 31 + book.coming.keyIn(place);
      sum = sum * 31 + book.coming.valueIn(place);
    }
    for (int place = 0; place < book.asking.count(); place++) {
      sum = sum * 31 + book.asking.keyIn(place);
    }
    sum = sum * 31 + book.most;
    sum = sum * 31 + book.eldestBy;
    return sum * 31 + past.kept();
  }

  // ---- inside

  /** Called by every change but cut() and undo(), behind the last test that may refuse it. */
  private void beginChange() {
    tour.end();
    past.keep(book);
  }

  /** Plays the theorem on a row of its own, so that the book stays as it is. */
  private boolean movesGiveAsking() {
    trial.become(book.coming);
    for (int place = book.staying(); place < book.asking.count(); place++) {
      trial.putLast(trial.find(book.asking.keyIn(place)));
    }
    return trial.sameAs(book.asking);
  }

  private void refuseKeyOutOfRange(int key) throws IllegalArgumentException {
    if (key < 0 || key >= KEYS) {
      throw new IllegalArgumentException("the key is out of range");
    }
  }

  private void refuseAbsentKey(int key) throws NoSuchElementException {
    if (!book.holds(key)) {
      throw new NoSuchElementException("the key is not there");
    }
  }

  private void refuseUnknownOrder(char order) throws IllegalArgumentException {
    if (order != COMING && order != ASKING) {
      throw new IllegalArgumentException("there is no such order");
    }
  }

  private void refuseUnknownPlace(int place) throws IndexOutOfBoundsException {
    if (!book.coming.holdsPlace(place)) {
      throw new IndexOutOfBoundsException("there is no such place");
    }
  }

  /** The entries in one order, told by key (find) and by place. */
  private static final class Row {
    private final int[] keys;
    private final int[] values;
    private int count;

    Row() {
      keys = new int[HIGHEST_LIMIT];
      values = new int[HIGHEST_LIMIT];
      count = 0;
    }

    int count() {
      return count;
    }

    boolean holdsPlace(int place) {
      return place >= 0 && place < count && place < keys.length;
    }

    int keyIn(int place) {
      return holdsPlace(place) ? keys[place] : NONE;
    }

    int valueIn(int place) {
      return holdsPlace(place) ? values[place] : 0;
    }

    int find(int key) {
      for (int place = 0; place < count; place++) {
        if (keyIn(place) == key) {
          return place;
        }
      }
      return NONE;
    }

    void give(int place, int value) {
      if (holdsPlace(place)) {
        values[place] = value;
      }
    }

    void append(int key, int value) {
      if (count < keys.length) {
        keys[count] = key;
        values[count] = value;
        count++;
      }
    }

    void close(int place) {
      if (!holdsPlace(place)) {
        return;
      }
      for (int next = place + 1; next < count && next < keys.length; next++) {
        keys[next - 1] = keys[next];
        values[next - 1] = values[next];
      }
      count--;
    }

    void putLast(int place) {
      if (!holdsPlace(place)) {
        return;
      }
      int key = keys[place];
      int value = values[place];
      close(place);
      append(key, value);
    }

    void become(Row other) {
      count = 0;
      for (int place = 0; place < other.count; place++) {
        append(other.keyIn(place), other.valueIn(place));
      }
    }

    /** Fails if a key stands at two places. */
    boolean tellsAlike() {
      for (int place = 0; place < count; place++) {
        if (find(keyIn(place)) != place) {
          return false;
        }
      }
      return true;
    }

    boolean hasEntriesOf(Row other) {
      for (int place = 0; place < other.count; place++) {
        int here = find(other.keyIn(place));
        if (here == NONE || valueIn(here) != other.valueIn(place)) {
          return false;
        }
      }
      return true;
    }

    boolean sameAs(Row other) {
      if (count != other.count) {
        return false;
      }
      for (int place = 0; place < count; place++) {
        if (keyIn(place) != other.keyIn(place) || valueIn(place) != other.valueIn(place)) {
          return false;
        }
      }
      return true;
    }
  }

  /** All that a change keeps: the entries in both orders, the limit and the way. */
  private static final class Page {
    private final Row coming;
    private final Row asking;
    private int most;
    private char eldestBy;

    Page() {
      coming = new Row();
      asking = new Row();
      most = FIRST_LIMIT;
      eldestBy = COMING;
    }

    Row row(char order) {
      return order == ASKING ? asking : coming;
    }

    boolean holds(int key) {
      return coming.find(key) != NONE;
    }

    int valueOf(int key) {
      return coming.valueIn(coming.find(key));
    }

    void giveKey(int key, int value) {
      coming.give(coming.find(key), value);
      asking.give(asking.find(key), value);
    }

    void touch(int key) {
      asking.putLast(asking.find(key));
    }

    void takeOut(int key) {
      coming.close(coming.find(key));
      asking.close(asking.find(key));
    }

    /**
     * The eldest goes first, so that a row never needs room for one entry over the limit; the new
     * one stands last in both orders and is never the eldest, the limit being 1 at least.
     */
    int letIn(int key, int value) {
      int gone = coming.count() < most ? NONE : dropEldest();
      coming.append(key, value);
      asking.append(key, value);
      return gone;
    }

    int dropWhatIsOver() {
      int over = Math.max(coming.count() - most, 0);
      for (int gone = 0; gone < over; gone++) {
        dropEldest();
      }
      return over;
    }

    private int dropEldest() {
      int key = row(eldestBy).keyIn(0);
      takeOut(key);
      return key;
    }

    /** Goes from the last place to the first, so that the places ahead keep their numbers. */
    int takeOutEach(char order, int each) {
      if (each < 1) {
        return 0;
      }
      int turns = coming.count() / each;
      for (int turn = turns; turn >= 1; turn--) {
        takeOut(row(order).keyIn(turn * each - 1));
      }
      return turns;
    }

    /** How many entries the longest beginning has that stands alike in both orders. */
    int staying() {
      int last = NONE;
      for (int place = 0; place < asking.count(); place++) {
        int cameAt = coming.find(asking.keyIn(place));
        if (cameAt < last) {
          return place;
        }
        last = cameAt;
      }
      return asking.count();
    }

    int crossedPairs() {
      int pairs = 0;
      for (int behind = 1; behind < asking.count(); behind++) {
        int cameAt = coming.find(asking.keyIn(behind));
        for (int ahead = 0; ahead < behind; ahead++) {
          if (coming.find(asking.keyIn(ahead)) > cameAt) {
            pairs++;
          }
        }
      }
      return pairs;
    }

    void become(Page other) {
      coming.become(other.coming);
      asking.become(other.asking);
      most = other.most;
      eldestBy = other.eldestBy;
    }
  }

  /** The book as it was ahead of the latest changes; the pages are a ring that is used again. */
  private static final class Past {
    private final Page[] pages;
    private int free;
    private int kept;

    Past() {
      pages = new Page[MOST_KEPT];
      for (int number = 0; number < pages.length; number++) {
        pages[number] = new Page();
      }
      free = 0;
      kept = 0;
    }

    int kept() {
      return kept;
    }

    void keep(Page book) {
      if (free < 0 || free >= pages.length) {
        return;
      }
      pages[free].become(book);
      free = free + 1 < pages.length ? free + 1 : 0;
      kept = Math.min(kept + 1, pages.length);
    }

    void bringBack(Page book) {
      int latest = free > 0 ? free - 1 : pages.length - 1;
      if (kept == 0 || latest < 0 || latest >= pages.length) {
        return;
      }
      book.become(pages[latest]);
      free = latest;
      kept--;
    }
  }

  /** A walk: the places below nextPlace are those that it has gone over. */
  private static final class Tour {
    private boolean on;
    private char order;
    private int nextPlace;
    private boolean mayCut;

    Tour() {
      on = false;
      order = COMING;
      nextPlace = 0;
      mayCut = false;
    }

    void begin(char chosen) {
      on = true;
      order = chosen;
      nextPlace = 0;
      mayCut = false;
    }

    void end() {
      on = false;
    }

    boolean isOn() {
      return on;
    }

    char order() {
      return order;
    }

    int nextPlace() {
      return nextPlace;
    }

    boolean mayCut() {
      return mayCut;
    }

    void goOver() {
      nextPlace++;
      mayCut = true;
    }

    /** For the entry behind the one that was cut has moved up by a place. */
    void goBack() {
      nextPlace--;
      mayCut = false;
    }
  }
}
