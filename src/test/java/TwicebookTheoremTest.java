import java.util.ArrayDeque;
import java.util.ArrayList;
import java.util.HashMap;
import java.util.List;
import java.util.Map;

/**
 * The theorem on every pair of orders of up to six keys: the moves lead from the order of coming to
 * that of asking, and no row of fewer askings does. The fewest are found by trying all of them.
 */
public final class TwicebookTheoremTest {
  private static final int MOST_KEYS = 6;
  private static final Checks CHECKS = new Checks();

  public static void main(String[] args) {
    for (int count = 0; count <= MOST_KEYS; count++) {
      List<Integer> coming = new ArrayList<>();
      for (int key = 0; key < count; key++) {
        coming.add(key);
      }
      for (Map.Entry<List<Integer>, Integer> found : fewestAskings(coming).entrySet()) {
        lookAt(coming, found.getKey(), found.getValue());
      }
    }
    CHECKS.end();
  }

  private static Map<List<Integer>, Integer> fewestAskings(List<Integer> coming) {
    Map<List<Integer>, Integer> fewest = new HashMap<>();
    ArrayDeque<List<Integer>> open = new ArrayDeque<>();
    fewest.put(coming, 0);
    open.add(coming);
    while (!open.isEmpty()) {
      List<Integer> order = open.remove();
      for (Integer key : coming) {
        List<Integer> next = new ArrayList<>(order);
        next.remove(key);
        next.add(key);
        if (fewest.putIfAbsent(next, fewest.get(order) + 1) == null) {
          open.add(next);
        }
      }
    }
    return fewest;
  }

  private static void lookAt(List<Integer> coming, List<Integer> asking, int fewest) {
    CHECKS.about("asking " + asking);
    Twicebook book = new Twicebook();
    coming.forEach(key -> book.put(key, -key));
    asking.forEach(book::get);
    CHECKS.due("moves()", book.moves(), fewest);
    CHECKS.due("isTrue()", book.isTrue(), true);
    Twicebook played = new Twicebook();
    coming.forEach(key -> played.put(key, -key));
    for (int index = 0; index < book.moves(); index++) {
      played.get(book.move(index));
    }
    for (int place = 0; place < asking.size(); place++) {
      CHECKS.due("keyAt('a', " + place + ")", played.keyAt('a', place), asking.get(place));
    }
    CHECKS.due("crossings()", book.crossings(), crossings(asking));
  }

  private static int crossings(List<Integer> asking) {
    int pairs = 0;
    for (int low = 0; low < asking.size(); low++) {
      for (int high = low + 1; high < asking.size(); high++) {
        pairs += asking.indexOf(low) > asking.indexOf(high) ? 1 : 0;
      }
    }
    return pairs;
  }
}
