/** The boundary cases of promises 19 to 26 and 42 to 45: items, sides, shuffles, splits, plays. */
public final class ProgramEdgesTest {
  private static final int LOW = Edges.LOW;
  private static final int HIGH = Edges.HIGH;

  /** An object with so many items of one silent sample each. */
  private static Edges items(Due due, int many) {
    Edges e = new Edges(due);
    e.x.silence(1);
    for (int i = 0; i < many; i++) e.x.add(0, 0);
    return e;
  }

  /** "a gap of 0 to 100 samples"; "if there is no such piece". */
  private static void gaps(Due due) {
    Edges e = items(due, 0);
    e.argument("19 gap", (x, n) -> x.add(0, n), -1, 101, LOW, HIGH);
    e.bounds("19 no piece", (x, n) -> x.add(n, 0), -1, 1, LOW, HIGH);
    e.bounds("19 no piece is told first", (x, n) -> x.add(1, n), -1, 101);
    e.is("19 a gap of 0", 0, x -> x.add(0, 0));
    e.is("23 then", 1, x -> x.programLength());
    e.is("19 a gap of 100", 1, x -> x.add(0, 100));
    e.is("23 then", 102, x -> x.programLength());
    e.is("22 of a gap of 0", 0, x -> x.startOf(0));
    e.is("22 of a gap of 100", 101, x -> x.startOf(1));
    e.bounds("22 no item", (x, n) -> x.startOf(n), -1, 2, LOW, HIGH);
  }

  /** "at most 12 items"; "if there are 12". */
  private static void twelveItems(Due due) {
    Edges e = items(due, 0);
    e.count("19 add", 0, 11, x -> x.add(0, 1));
    e.state("19 the item 12", x -> x.add(0, 0));
    e.argument("19 the item 12, gap", (x, n) -> x.add(0, n), -1, 101);
    e.bounds("19 the item 12, no piece", (x, n) -> x.add(n, 0), -1, 1);
    e.is("22 the item 11", 23, x -> x.startOf(11));
    e.bounds("22 the item 12", x -> x.startOf(12));
    e.is("23 then", 24, x -> x.programLength());
  }

  /** "3000 samples at most in all"; "if the program would have more than 3000 samples". */
  private static void fullProgram(Due due) {
    Edges e = new Edges(due);
    int most = e.longSilence(800);
    int half = e.longSilence(500);
    int more = e.longSilence(501);
    for (int i = 0; i < 3; i++) e.x.add(most, 0);
    e.unsupported("19 3001 by a piece", x -> x.add(more, 100));
    e.unsupported("19 3200 without a gap", x -> x.add(most, 0));
    e.argument("19 a gap is told ahead of that", (x, n) -> x.add(more, n), 101, HIGH);
    e.is("19 3000", 3, x -> x.add(half, 100));
    e.is("23 3000", 3000, x -> x.programLength());
    e.is("24 the last one", 0, x -> x.heard(2999));
    e.none("24 none", (x, n) -> x.heard(n), 3000, -1, LOW, HIGH);
    e.unsupported("19 no more", x -> x.add(more, 0));
    e.unsupported("21 3001", x -> x.replace(3, more));
    e.unsupported("21 3300", x -> x.replace(3, most));
    e.is("21 3000 again", half, x -> x.replace(3, half));
    e.is("21 2700", most, x -> x.replace(0, half));
    e.is("21 2701", half, x -> x.replace(3, more));
    e.unsupported("21 3001 by the first one", x -> x.replace(0, most));
    e.is("21 2700 again", more, x -> x.replace(3, half));
    e.is("21 3000 by the first one", half, x -> x.replace(0, most));
    e.is("23 3000 again", 3000, x -> x.programLength());
  }

  /** "if the program would have more than 3000" is told ahead of "if there are 12". */
  private static void fullOfItems(Due due) {
    Edges e = new Edges(due);
    int most = e.longSilence(800);
    int one = e.x.silence(1);
    int two = e.x.silence(2);
    for (int i = 0; i < 3; i++) e.x.add(most, 0);
    for (int i = 3; i < 11; i++) e.x.add(one, 50);
    e.x.add(one, 90);
    e.is("23 2899", 2899, x -> x.programLength());
    e.state("19 3000 of 13", x -> x.add(one, 100));
    e.unsupported("19 3001 of 13", x -> x.add(two, 100));
    e.unsupported("19 3699 of 13", x -> x.add(most, 0));
    e.argument("19 3699 of 13, gap", (x, n) -> x.add(most, n), -1, 101);
  }

  /** "if there is no such item or piece". */
  private static void replaces(Due due) {
    Edges e = items(due, 2);
    e.x.silence(2);
    e.bounds("21 no item", (x, n) -> x.replace(n, 0), -1, 2, LOW, HIGH);
    e.bounds("21 no piece", (x, n) -> x.replace(0, n), -1, 2, LOW, HIGH);
    e.bounds("21 neither", (x, n) -> x.replace(n, n), -1, 2, LOW, HIGH);
    e.is("21 the last item", 0, x -> x.replace(1, 1));
    e.is("21 the last item again", 1, x -> x.replace(1, 0));
    e.is("21 the first item", 0, x -> x.replace(0, 1));
    e.is("22 behind it", 2, x -> x.startOf(1));
    e.is("23 then", 3, x -> x.programLength());
  }

  private static void heards(Due due) {
    Edges e = new Edges(due);
    e.none("24 of none", (x, n) -> x.heard(n), 0, -1, 1, LOW, HIGH);
    e.piece(5, 6);
    e.x.add(0, 0);
    e.is("24 the first", 5, x -> x.heard(0));
    e.is("24 the last", 6, x -> x.heard(1));
    e.none("24 of two", (x, n) -> x.heard(n), -1, 2, LOW, HIGH);
    e.x.add(0, 1);
    int[] want = {5, 6, 0, 5, 6};
    for (int i = 0; i < want.length; i++) {
      int k = i;
      e.is("24 sample " + k, want[k], x -> x.heard(k));
    }
    e.none("24 of five", (x, n) -> x.heard(n), -1, 5);
    e.x.cut(0, 1, 1);
    e.x.replace(0, 1);
    e.is("24 the last one of fewer", 6, x -> x.heard(3));
    e.none("24 of fewer", (x, n) -> x.heard(n), 4);
  }

  /** "The last item is locked to none, until another one comes behind it." */
  private static void locks(Due due) {
    Edges e = items(due, 1);
    e.bounds("20 no item", (x, n) -> x.lock(n, true), -1, 1, LOW, HIGH);
    e.bounds("20 no item, not", (x, n) -> x.lock(n, false), -1, 1);
    e.is("20 the last item", false, x -> x.lock(0, true));
    e.is("25 the last item alone", 1, x -> x.sides(2));
    e.is("42 the last item alone", 0, x -> x.shuffled(1, 0));
    e.is("20 not again", true, x -> x.lock(0, false));
    e.x.add(0, 0);
    e.is("25 not locked", 2, x -> x.sides(2));
    e.is("20 the item 1", false, x -> x.lock(1, true));
    e.is("25 two sides", 2, x -> x.sides(2));
    e.x.add(0, 0);
    e.unsupported("25 the run is 4 wide", x -> x.sides(3));
    e.is("25 the run fits", 2, x -> x.sides(4));
    e.is("26 its first item", 1, x -> x.sideOf(1, 4));
    e.is("26 its last item", 1, x -> x.sideOf(2, 4));
    e.is("20 it was", true, x -> x.lock(1, false));
    e.is("25 three sides", 3, x -> x.sides(2));
  }

  /** "the room, 1 to 99999"; "0 without items"; "if items do not fit". */
  private static void rooms(Due due) {
    Edges none = new Edges(due);
    none.argument("25 without items, room", (x, n) -> x.sides(n), 0, 100000, -1, LOW, HIGH);
    none.is("25 without items, the least", 0, x -> x.sides(1));
    none.is("25 without items, the most", 0, x -> x.sides(99999));
    none.bounds("26 without items", (x, n) -> x.sideOf(0, n), 0, 1, 99999, 100000);
    Edges e = items(due, 3);
    e.argument("25 room", (x, n) -> x.sides(n), 0, 100000, -1, LOW, HIGH);
    e.argument("26 room", (x, n) -> x.sideOf(0, n), 0, 100000, -1, LOW, HIGH);
    e.bounds("26 no item", (x, n) -> x.sideOf(n, 99999), -1, 3, LOW, HIGH);
    e.bounds("26 no item is told first", (x, n) -> x.sideOf(3, n), 0, 100000, 1);
    e.unsupported("25 no room", x -> x.sides(1));
    e.unsupported("26 no room", x -> x.sideOf(0, 1));
    e.is("25 one each", 3, x -> x.sides(2));
    e.is("25 still one each", 3, x -> x.sides(3));
    e.is("25 two and one", 2, x -> x.sides(4));
    e.is("25 still two and one", 2, x -> x.sides(5));
    e.is("25 all", 1, x -> x.sides(6));
    e.is("25 the most", 1, x -> x.sides(99999));
    e.is("26 the last one by one each", 2, x -> x.sideOf(2, 2));
    e.is("26 the last one by two", 1, x -> x.sideOf(2, 4));
    e.is("26 the last one of all", 0, x -> x.sideOf(2, 6));
    e.is("26 the middle one by two", 0, x -> x.sideOf(1, 4));
    e.is("26 the first one", 0, x -> x.sideOf(0, 2));
  }

  /** "if items do not fit", though it is the last one alone that does not. */
  private static void lastDoesNotFit(Due due) {
    Edges e = items(due, 2);
    e.x.silence(2);
    e.x.add(1, 0);
    e.unsupported("25 the last one is 4 wide", x -> x.sides(3));
    e.unsupported("26 the first one's side", x -> x.sideOf(0, 3));
    e.is("25 it fits", 2, x -> x.sides(4));
    e.is("26 its side", 1, x -> x.sideOf(2, 4));
  }

  /** "so that no locked one is parted", all twelve of them, and "each as many items as it can". */
  private static void lockedSides(Due due) {
    Edges e = items(due, 12);
    for (int i = 0; i < 12; i++) e.x.lock(i, true);
    e.unsupported("25 all twelve are 24 wide", x -> x.sides(23));
    e.is("25 all twelve", 1, x -> x.sides(24));
    e.x.lock(5, false);
    e.unsupported("25 six are 12 wide", x -> x.sides(11));
    e.is("25 six and six", 2, x -> x.sides(12));
    e.is("25 six and six, almost", 2, x -> x.sides(23));
    e.is("25 six and six together", 1, x -> x.sides(24));
    e.is("26 the last one ahead", 0, x -> x.sideOf(5, 12));
    e.is("26 the first one behind", 1, x -> x.sideOf(6, 12));
    e.x.lock(0, false);
    e.is("26 one, five and six", 0, x -> x.sideOf(5, 12));
    e.x.lock(6, false);
    // 1, 5, 1 and 5 items: by 14 the third one is on the first side yet
    e.is("26 the third run", 0, x -> x.sideOf(6, 14));
    e.is("26 the fourth run", 1, x -> x.sideOf(7, 14));
    e.is("26 the third run, no room", 1, x -> x.sideOf(6, 13));
  }

  /** "The width of a sample is 2 and its amount divided by 4096, cut". */
  private static void width(Due due, int want, int value, int hundredths) {
    Edges e = new Edges(due);
    e.piece(value);
    e.x.gain(0, hundredths);
    e.x.add(1, 0);
    e.unsupported("25 a width of " + want + " by less", x -> x.sides(want - 1));
    e.is("25 a width of " + want, 1, x -> x.sides(want));
  }

  private static void widths(Due due) {
    width(due, 2, 0, 100);
    width(due, 2, 4095, 100);
    width(due, 2, -4095, 100);
    width(due, 3, 4096, 100);
    width(due, 3, -4096, 100);
    width(due, 3, 8191, 100);
    width(due, 4, 8192, 100);
    width(due, 9, 28672, 100);
    width(due, 8, -28671, 100);
    width(due, 9, 30000, 400);
    width(due, 10, -30000, 400);
    Edges e = items(due, 0);
    e.x.add(0, 100);
    e.unsupported("25 with the gap, less", x -> x.sides(201));
    e.is("25 with the gap", 1, x -> x.sides(202));
  }

  /** The width of an item is that of the piece that it has then. */
  private static void widthReplaced(Due due) {
    Edges e = items(due, 1);
    e.x.silence(3);
    e.x.replace(0, 1);
    e.unsupported("25 replaced, less", x -> x.sides(5));
    e.is("25 replaced", 1, x -> x.sides(6));
  }

  /** "z, 1 to 2147483646"; "the index, from 0"; "if there is none". */
  private static void shuffles(Due due) {
    Edges none = new Edges(due);
    none.none("42 without items", (x, n) -> x.shuffled(1, n), 0, -1, 1);
    none.argument("42 without items, z", (x, n) -> x.shuffled(n, 0), 0, HIGH, -1, LOW);
    Edges e = items(due, 3);
    e.argument("42 z", (x, n) -> x.shuffled(n, 0), 0, HIGH, -1, LOW);
    e.argument("42 z is told first", (x, n) -> x.shuffled(n, 3), 0, HIGH);
    e.argument("42 z is told first again", (x, n) -> x.shuffled(n, -1), 0, HIGH);
    e.none("42 index", (x, n) -> x.shuffled(1, n), -1, 3, LOW, HIGH);
    // z 48271 by 3 is 1, z 182605794 by 2 is 0
    order(e, "42 by 1", 1, 2, 0, 1);
    // z 2147435376 by 3 is 0, z 1964877853 by 2 is 1
    order(e, "42 by 2147483646", 2147483646, 2, 1, 0);
  }

  private static void order(Edges e, String what, int z, int... want) {
    for (int i = 0; i < want.length; i++) {
      int k = i;
      e.is(what + ", index " + k, want[k], x -> x.shuffled(z, k));
    }
  }

  /** "Runs are items that are locked together, and all others alone." */
  private static void shuffledRuns(Due due) {
    Edges one = items(due, 1);
    order(one, "42 one item", 7, 0);
    Edges two = items(due, 2);
    // z 48271 by 2 is 1, z 96542 is 0
    order(two, "42 two items that stay", 1, 0, 1);
    order(two, "42 two items that change", 2, 1, 0);
    two.x.lock(0, true);
    order(two, "42 two that are locked", 2, 0, 1);
    Edges e = items(due, 4);
    for (int i = 0; i < 3; i++) e.x.lock(i, true);
    order(e, "42 all are locked", 2, 0, 1, 2, 3);
    e.x.lock(0, false);
    order(e, "42 one and three", 2, 1, 2, 3, 0);
    e.none("42 index of one and three", (x, n) -> x.shuffled(2, n), -1, 4);
    e.x.lock(0, true);
    e.x.lock(2, false);
    order(e, "42 three and one", 2, 3, 0, 1, 2);
    e.x.lock(3, true);
    order(e, "42 the last one is locked to none", 2, 3, 0, 1, 2);
  }

  /** "parties, 0 to 7, have hundredths, 100 together at most"; "in place of an earlier one". */
  private static void splits(Due due) {
    Edges e = items(due, 2);
    e.bounds("43 no item", (x, n) -> x.split(n, 0, 0), -1, 2, LOW, HIGH);
    e.bounds("43 no item is told first", (x, n) -> x.split(2, n, n), -1, 101);
    e.argument("43 party", (x, n) -> x.split(0, n, 0), -1, 8, LOW, HIGH);
    e.argument("43 hundredths", (x, n) -> x.split(0, 0, n), -1, 101, LOW, HIGH);
    e.is("43 none", 100, x -> x.split(0, 0, 0));
    e.is("43 all", 0, x -> x.split(0, 7, 100));
    e.is("43 all again", 0, x -> x.split(0, 7, 100));
    e.unsupported("43 one more", x -> x.split(0, 0, 1));
    e.unsupported("43 all more", x -> x.split(0, 0, 100));
    e.argument("43 a number is told ahead of that", (x, n) -> x.split(0, 0, n), 101, HIGH);
    e.argument("43 a party is told ahead of that", (x, n) -> x.split(0, n, 1), -1, 8);
    e.is("43 none more", 0, x -> x.split(0, 0, 0));
    e.is("43 the other item", 0, x -> x.split(1, 0, 100));
    e.is("43 all but one", 1, x -> x.split(0, 7, 99));
    e.unsupported("43 two more", x -> x.split(0, 0, 2));
    e.is("43 one more then", 0, x -> x.split(0, 0, 1));
    e.unsupported("43 in place of an earlier one", x -> x.split(0, 0, 2));
    for (int party = 0; party < 8; party++) e.x.split(0, party, 0);
    for (int party = 0; party < 8; party++) {
      int p = party;
      e.is("43 by 12 each", 100 - 12 * (p + 1), x -> x.split(0, p, 12));
    }
    e.unsupported("43 12 and 5", x -> x.split(0, 3, 17));
    e.is("43 12 and 4", 0, x -> x.split(0, 3, 16));
  }

  /** "1 to 9999". */
  private static void plays(Due due) {
    Edges e = items(due, 2);
    e.bounds("44 no item", (x, n) -> x.play(n, 1), -1, 2, LOW, HIGH);
    e.bounds("44 no item is told first", (x, n) -> x.play(2, n), 0, 10000);
    e.argument("44 times", (x, n) -> x.play(0, n), 0, 10000, -1, LOW, HIGH);
    e.is("44 the least", 1, x -> x.play(0, 1));
    e.is("44 the most", 10000, x -> x.play(0, 9999));
    e.is("44 the other item", 9999, x -> x.play(1, 9999));
    for (int i = 0; i < 400; i++) e.x.play(1, 9999);
    e.is("44 many times", 9999 * 402, x -> x.play(1, 9999));
  }

  /** "0 to 7", "1 to 999"; of each item "divided by 100, cut". */
  private static void earnings(Due due) {
    Edges e = items(due, 2);
    e.argument("45 party", (x, n) -> x.earned(n, 1), -1, 8, LOW, HIGH);
    e.argument("45 cents", (x, n) -> x.earned(0, n), 0, 1000, -1, LOW, HIGH);
    e.argument("45 both", (x, n) -> x.earned(n, n), -1, 1000);
    e.x.split(0, 0, 50);
    e.x.split(1, 0, 50);
    e.x.split(0, 7, 1);
    e.is("45 not played", 0L, x -> x.earned(0, 999));
    e.x.play(0, 1);
    e.x.play(1, 1);
    e.is("45 twice a half is cut", 0L, x -> x.earned(0, 1));
    e.is("45 two wholes", 2L, x -> x.earned(0, 2));
    e.is("45 twice one and a half", 2L, x -> x.earned(0, 3));
    e.is("45 9 and 99", 9L, x -> x.earned(7, 999));
    e.is("45 almost one", 0L, x -> x.earned(7, 99));
    e.is("45 just one", 1L, x -> x.earned(7, 100));
    e.is("45 a party without splits", 0L, x -> x.earned(6, 999));
    e.x.split(1, 0, 100);
    for (int i = 0; i < 300; i++) e.x.play(1, 9999);
    // 2999701 plays at 999, and 499 of the other one
    e.is("45 beyond an int", 2999701L * 999 + 499, x -> x.earned(0, 999));
  }

  public static void main(String[] args) {
    Due due = new Due();
    gaps(due);
    twelveItems(due);
    fullProgram(due);
    fullOfItems(due);
    replaces(due);
    heards(due);
    locks(due);
    rooms(due);
    lastDoesNotFit(due);
    lockedSides(due);
    widths(due);
    widthReplaced(due);
    shuffles(due);
    shuffledRuns(due);
    splits(due);
    plays(due);
    earnings(due);
    due.end();
  }
}
