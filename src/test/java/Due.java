/** Compares answers with those that are due, for the tests of one main method. */
final class Due {
  interface Call {
    Object run();
  }

  private int wrong;

  /** What a call answers: its value as a text, or throws. and the exact class's name. */
  static String answerOf(Call call) {
    try {
      return String.valueOf(call.run());
    } catch (RuntimeException e) {
      return "throws." + e.getClass().getSimpleName();
    }
  }

  void is(String what, Object want, Call call) {
    String got = answerOf(call);
    if (!got.equals(String.valueOf(want))) {
      wrong++;
      System.out.println(what + " answered " + got + ", due is " + want);
    }
  }

  /** The call throws IndexOutOfBoundsException itself, not one of the machine's below it. */
  void bounds(String what, Call call) {
    is(what, "throws.IndexOutOfBoundsException", call);
  }

  void argument(String what, Call call) {
    is(what, "throws.IllegalArgumentException", call);
  }

  void state(String what, Call call) {
    is(what, "throws.IllegalStateException", call);
  }

  void unsupported(String what, Call call) {
    is(what, "throws.UnsupportedOperationException", call);
  }

  void none(String what, Call call) {
    is(what, "throws.NoSuchElementException", call);
  }

  void arithmetic(String what, Call call) {
    is(what, "throws.ArithmeticException", call);
  }

  void end() {
    System.out.println(wrong == 0 ? "all answers are as due" : wrong + " answers are not as due");
    if (wrong != 0) {
      System.exit(1);
    }
  }
}
