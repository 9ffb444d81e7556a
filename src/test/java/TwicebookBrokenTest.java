import java.lang.reflect.Field;

/**
 * No run of calls makes isTrue() answer false, so the fields of a book are broken here by hand, to
 * see that it checks them at all.
 */
public final class TwicebookBrokenTest {
  private static final Checks CHECKS = new Checks();

  public static void main(String[] args) throws ReflectiveOperationException {
    CHECKS.about("promise 26, isTrue of a broken book");
    CHECKS.due("a book that is whole", isTrueWithKey("asking", 2, 1), true);
    CHECKS.due("another key in asking", isTrueWithKey("asking", 2, 50), false);
    CHECKS.due("another key in coming", isTrueWithKey("coming", 2, 50), false);
    CHECKS.due("a key twice in asking", isTrueWithKey("asking", 2, 2), false);
    CHECKS.due("a key twice in coming", isTrueWithKey("coming", 2, 2), false);
    CHECKS.due("another value in asking", isTrueWithValue("asking"), false);
    CHECKS.due("another value in coming", isTrueWithValue("coming"), false);
    CHECKS.due("one less in asking", isTrueWithCount("asking"), false);
    CHECKS.due("one less in coming", isTrueWithCount("coming"), false);
    CHECKS.due("a limit that is too low", isTrueWithLimit(2), false);
    CHECKS.due("the limit just high enough", isTrueWithLimit(3), true);
    CHECKS.end();
  }

  /** The order of coming is 1 2 3, that of asking 2 3 1. */
  private static Twicebook whole() {
    Twicebook book = new Twicebook();
    book.put(1, 10);
    book.put(2, 20);
    book.put(3, 30);
    book.get(1);
    return book;
  }

  private static Field field(Object of, String name) throws ReflectiveOperationException {
    Field field = of.getClass().getDeclaredField(name);
    field.setAccessible(true);
    return field;
  }

  private static Object page(Twicebook book) throws ReflectiveOperationException {
    return field(book, "book").get(book);
  }

  private static Object row(Twicebook book, String order) throws ReflectiveOperationException {
    Object page = page(book);
    return field(page, order).get(page);
  }

  private static boolean isTrueWithKey(String order, int place, int key)
      throws ReflectiveOperationException {
    Twicebook book = whole();
    Object row = row(book, order);
    ((int[]) field(row, "keys").get(row))[place] = key;
    return book.isTrue();
  }

  private static boolean isTrueWithValue(String order) throws ReflectiveOperationException {
    Twicebook book = whole();
    Object row = row(book, order);
    ((int[]) field(row, "values").get(row))[1]++;
    return book.isTrue();
  }

  private static boolean isTrueWithCount(String order) throws ReflectiveOperationException {
    Twicebook book = whole();
    Object row = row(book, order);
    field(row, "count").setInt(row, 2);
    return book.isTrue();
  }

  private static boolean isTrueWithLimit(int most) throws ReflectiveOperationException {
    Twicebook book = whole();
    Object page = page(book);
    field(page, "most").setInt(page, most);
    return book.isTrue();
  }
}
