import java.util.ArrayDeque;
import java.util.ArrayList;
import java.util.Deque;
import java.util.LinkedHashMap;
import java.util.List;
import java.util.Map;
import java.util.NoSuchElementException;

/**
 * The book as the document tells it: LinkedHashMap in both of its orders, beside rows of ArrayDeque
 * that are kept by hand. It is written without a look at the program, to be compared with it.
 */
final class MapsBook {
  private static final class Kept {
    final Map<Integer, Integer> coming;
    final List<Integer> asking;
    final int limit;
    final char way;

    Kept(MapsBook book) {
      coming = new LinkedHashMap<>(book.coming);
      asking = new ArrayList<>(book.asking.keySet());
      limit = book.limit;
      way = book.way;
    }
  }

  private final LinkedHashMap<Integer, Integer> coming = new LinkedHashMap<>();
  private final LinkedHashMap<Integer, Integer> asking = new LinkedHashMap<>(16, 0.75f, true);
  private final ArrayDeque<Integer> comingRow = new ArrayDeque<>();
  private final ArrayDeque<Integer> askingRow = new ArrayDeque<>();
  private final Deque<Kept> past = new ArrayDeque<>();
  private int limit = 8;
  private char way = 'c';
  private List<Integer> aheadOfWalk = null;
  private Integer wentOver = null;

  private void keep() {
    past.addLast(new Kept(this));
    if (past.size() > 8) {
      past.removeFirst();
    }
  }

  private void change() {
    keep();
    aheadOfWalk = null;
  }

  private void touch(int key) {
    asking.get(key);
    askingRow.remove(key);
    askingRow.addLast(key);
  }

  private void give(int key, int value) {
    coming.put(key, value);
    for (Map.Entry<Integer, Integer> entry : asking.entrySet()) {
      if (entry.getKey() == key) {
        entry.setValue(value);
      }
    }
  }

  private int letIn(int key, int value) {
    coming.put(key, value);
    asking.put(key, value);
    comingRow.addLast(key);
    askingRow.addLast(key);
    return coming.size() > limit ? dropEldest() : -1;
  }

  private int dropEldest() {
    int key = (way == 'c' ? comingRow : askingRow).getFirst();
    takeOut(key);
    return key;
  }

  private void takeOut(int key) {
    coming.remove(key);
    asking.remove(key);
    comingRow.remove(key);
    askingRow.remove(key);
  }

  private List<Integer> keysIn(char order) {
    if (order != 'c' && order != 'a') {
      throw new IllegalArgumentException();
    }
    return new ArrayList<>(order == 'c' ? coming.keySet() : asking.keySet());
  }

  private int keyIn(char order, int place) {
    List<Integer> keys = keysIn(order);
    if (place < 0 || place >= keys.size()) {
      throw new IndexOutOfBoundsException();
    }
    return keys.get(place);
  }

  private void known(int key) {
    if (!coming.containsKey(key)) {
      throw new NoSuchElementException();
    }
  }

  private static void inRange(int number, int least, int most) {
    if (number < least || number > most) {
      throw new IllegalArgumentException();
    }
  }

  int put(int key, int value) {
    inRange(key, 0, 99);
    change();
    if (!coming.containsKey(key)) {
      return letIn(key, value);
    }
    give(key, value);
    touch(key);
    return -1;
  }

  boolean putIfAbsent(int key, int value) {
    inRange(key, 0, 99);
    change();
    if (!coming.containsKey(key)) {
      letIn(key, value);
      return true;
    }
    touch(key);
    return false;
  }

  int get(int key) {
    known(key);
    change();
    touch(key);
    return coming.get(key);
  }

  int getOr(int key, int other) {
    return coming.containsKey(key) ? get(key) : other;
  }

  boolean replace(int key, int value) {
    if (!coming.containsKey(key)) {
      return false;
    }
    put(key, value);
    return true;
  }

  boolean replaceIf(int key, int before, int value) {
    return coming.containsKey(key) && coming.get(key) == before && replace(key, value);
  }

  int look(int key) {
    known(key);
    return coming.get(key);
  }

  boolean has(int key) {
    return coming.containsKey(key);
  }

  int remove(int key) {
    known(key);
    int value = coming.get(key);
    change();
    takeOut(key);
    return value;
  }

  int size() {
    return coming.size();
  }

  int limit(int most) {
    inRange(most, 1, 12);
    change();
    limit = most;
    int gone = 0;
    while (coming.size() > limit) {
      dropEldest();
      gone++;
    }
    return gone;
  }

  char way(char chosen) {
    keysIn(chosen);
    change();
    char before = way;
    way = chosen;
    return before;
  }

  int keyAt(char order, int place) {
    return keyIn(order, place);
  }

  int placeOf(char order, int key) {
    List<Integer> keys = keysIn(order);
    known(key);
    return keys.indexOf(key);
  }

  int setAt(char order, int place, int value) {
    int key = keyIn(order, place);
    change();
    int before = coming.get(key);
    give(key, value);
    return before;
  }

  int removeAt(char order, int place) {
    int key = keyIn(order, place);
    change();
    takeOut(key);
    return key;
  }

  int thin(char order, int each) {
    List<Integer> keys = keysIn(order);
    inRange(each, 1, 12);
    List<Integer> out = new ArrayList<>();
    for (int place = 0; place < keys.size(); place++) {
      if ((place + 1) % each == 0) {
        out.add(keys.get(place));
      }
    }
    if (!out.isEmpty()) {
      change();
    }
    for (int key : out) {
      takeOut(key);
    }
    return out.size();
  }

  int walk(char order) {
    aheadOfWalk = keysIn(order);
    wentOver = null;
    return aheadOfWalk.size();
  }

  int step() {
    if (aheadOfWalk == null) {
      throw new IllegalStateException();
    }
    if (aheadOfWalk.isEmpty()) {
      throw new NoSuchElementException();
    }
    wentOver = aheadOfWalk.remove(0);
    return wentOver;
  }

  int cut() {
    if (aheadOfWalk == null || wentOver == null) {
      throw new IllegalStateException();
    }
    keep();
    takeOut(wentOver);
    wentOver = null;
    return coming.size();
  }

  /** Tries each length of the beginning that stays, the longest first. */
  private List<Integer> moved() {
    List<Integer> asked = keysIn('a');
    for (int stay = asked.size(); stay > 0; stay--) {
      List<Integer> staying = keysIn('c');
      staying.retainAll(asked.subList(0, stay));
      if (staying.equals(asked.subList(0, stay))) {
        return asked.subList(stay, asked.size());
      }
    }
    return asked;
  }

  int moves() {
    return moved().size();
  }

  int move(int index) {
    List<Integer> all = moved();
    if (index < 0 || index >= all.size()) {
      throw new IndexOutOfBoundsException();
    }
    return all.get(index);
  }

  int crossings() {
    int pairs = 0;
    for (int one : coming.keySet()) {
      for (int other : coming.keySet()) {
        if (placeOf('c', one) < placeOf('c', other) && placeOf('a', one) > placeOf('a', other)) {
          pairs++;
        }
      }
    }
    return pairs;
  }

  int undo() {
    if (past.isEmpty()) {
      throw new NoSuchElementException();
    }
    Kept kept = past.removeLast();
    aheadOfWalk = null;
    coming.clear();
    asking.clear();
    coming.putAll(kept.coming);
    for (int key : kept.asking) {
      asking.put(key, kept.coming.get(key));
    }
    comingRow.clear();
    askingRow.clear();
    comingRow.addAll(coming.keySet());
    askingRow.addAll(kept.asking);
    limit = kept.limit;
    way = kept.way;
    return past.size();
  }

  boolean isTrue() {
    LinkedHashMap<Integer, Integer> played = new LinkedHashMap<>(16, 0.75f, true);
    played.putAll(coming);
    for (int key : moved()) {
      played.get(key);
    }
    // Not coming.equals(asking): that would ask the map in the order of asking for every key.
    return asking.equals(coming)
        && coming.size() <= limit
        && keysIn('c').equals(new ArrayList<>(comingRow))
        && keysIn('a').equals(new ArrayList<>(askingRow))
        && keysIn('a').equals(new ArrayList<>(played.keySet()));
  }

  long checksum() {
    long sum = 7;
    for (Map.Entry<Integer, Integer> entry : coming.entrySet()) {
      sum = sum * 31 + entry.getKey();
      sum = sum * 31 + entry.getValue();
    }
    for (int key : asking.keySet()) {
      sum = sum * 31 + key;
    }
    return ((sum * 31 + limit) * 31 + way) * 31 + past.size();
  }
}
