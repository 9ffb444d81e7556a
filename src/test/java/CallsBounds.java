/** The boundary of all calls: an object is used for 512 calls, and the last one is right still. */
final class CallsBounds {
  private CallsBounds() {}

  @Says("Whatever is called")
  static void termsTheFiveHundredAndTwelfthCall(Checks c) {
    Twicebook x = new Twicebook();
    for (int call = 1; call < 512; call++) {
      c.due("put, call " + call, x.put(call % 100, call), call <= 8 ? -1 : (call - 8) % 100);
    }
    c.due("look(11), call 512", x.look(11), 511);
  }
}
