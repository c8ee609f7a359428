/** A new object, with what it answers at an edge, and what it refuses there, changing nothing. */
final class Edges {
  interface Call {
    Object on(Segueworks x);
  }

  interface NumberCall {
    Object on(Segueworks x, int number);
  }

  static final int LOW = Integer.MIN_VALUE;
  static final int HIGH = Integer.MAX_VALUE;

  final Segueworks x = new Segueworks();
  private final Due due;

  Edges(Due due) {
    this.due = due;
  }

  /** Makes a piece of these samples on a new reel. */
  int piece(int... samples) {
    int reel = x.reel();
    for (int value : samples) x.sample(reel, value);
    return x.cut(reel, 0, samples.length);
  }

  /** Makes a silent piece of so many samples, 200 to 800, by three pieces more at most. */
  int longSilence(int many) {
    int piece = x.silence(200);
    while (x.lengthOf(piece) * 2 <= many) piece = x.splice(piece, piece, 0);
    return x.splice(piece, piece, 2 * x.lengthOf(piece) - many);
  }

  /** Makes pieces until there are 24. */
  void fillPieces() {
    while (!Due.answerOf(() -> x.silence(1)).startsWith("throws")) continue;
  }

  void is(String what, Object want, Call call) {
    due.is(what, want, () -> call.on(x));
  }

  /** The numbers answer one behind the other from the first want on. */
  void count(String what, int from, int to, Call call) {
    for (int want = from; want <= to; want++) is(what + ", the one of number " + want, want, call);
  }

  void samples(String what, int piece, int... want) {
    is(what + ", its length", want.length, x -> x.lengthOf(piece));
    for (int i = 0; i < want.length; i++) {
      int k = i;
      is(what + ", sample " + k, want[k], x -> x.sampleOf(piece, k));
    }
  }

  private void refused(String what, String exception, Call call) {
    String before = Inside.of(x);
    is(what, "throws." + exception, call);
    due.is(what + ", whether it changed nothing", true, () -> before.equals(Inside.of(x)));
  }

  private void refused(String what, String exception, NumberCall call, int... numbers) {
    for (int number : numbers) {
      refused(what + " of " + number, exception, x -> call.on(x, number));
    }
  }

  void bounds(String what, Call call) {
    refused(what, "IndexOutOfBoundsException", call);
  }

  void bounds(String what, NumberCall call, int... numbers) {
    refused(what, "IndexOutOfBoundsException", call, numbers);
  }

  void argument(String what, Call call) {
    refused(what, "IllegalArgumentException", call);
  }

  void argument(String what, NumberCall call, int... numbers) {
    refused(what, "IllegalArgumentException", call, numbers);
  }

  void state(String what, Call call) {
    refused(what, "IllegalStateException", call);
  }

  void unsupported(String what, Call call) {
    refused(what, "UnsupportedOperationException", call);
  }

  void none(String what, Call call) {
    refused(what, "NoSuchElementException", call);
  }

  void none(String what, NumberCall call, int... numbers) {
    refused(what, "NoSuchElementException", call, numbers);
  }

  void arithmetic(String what, Call call) {
    refused(what, "ArithmeticException", call);
  }
}
