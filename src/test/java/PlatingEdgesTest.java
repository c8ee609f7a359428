/** The boundary cases of promises 27 to 32 and 48: lacquers, plates, discs and their share. */
public final class PlatingEdgesTest {
  private static final int LOW = Edges.LOW;
  private static final int HIGH = Edges.HIGH;

  /** An object with so many items of one silent sample each. */
  private static Edges items(Due due, int many) {
    Edges e = new Edges(due);
    e.x.silence(1);
    for (int i = 0; i < many; i++) e.x.add(0, 0);
    return e;
  }

  /** An object with so many stampers of one mother each four. */
  private static Edges stampers(Due due, int many) {
    Edges e = items(due, 1);
    e.x.engrave(0, 2);
    e.x.father(0);
    for (int i = 0; i < many; i++) {
      if (i % 4 == 0) e.x.mother(0);
      e.x.stamper(i / 4);
    }
    return e;
  }

  /** "the side, from 0"; "the room, 1 to 99999"; "if items do not fit". */
  private static void sides(Due due) {
    Edges none = new Edges(due);
    none.none("27 without items", (x, n) -> x.engrave(n, 1), 0, -1, 1, LOW, HIGH);
    none.none("27 without items, the most room", x -> x.engrave(0, 99999));
    none.argument("27 without items, room", (x, n) -> x.engrave(0, n), 0, 100000, -1, LOW, HIGH);
    Edges e = items(due, 3);
    e.argument("27 room", (x, n) -> x.engrave(0, n), 0, 100000, -1, LOW, HIGH);
    e.argument("27 room is told first", (x, n) -> x.engrave(3, n), 0, 100000);
    e.unsupported("27 no fit", x -> x.engrave(0, 1));
    e.unsupported("27 no fit is told ahead of no side", x -> x.engrave(3, 1));
    e.none("27 no side of three", (x, n) -> x.engrave(n, 2), -1, 3, LOW, HIGH);
    e.none("27 no side of two", (x, n) -> x.engrave(n, 4), -1, 2);
    e.none("27 no side of one", (x, n) -> x.engrave(n, 99999), -1, 1);
    e.is("27 the last side of three", 0, x -> x.engrave(2, 2));
    e.is("27 the last side of two", 1, x -> x.engrave(1, 4));
    e.is("27 the only side", 2, x -> x.engrave(0, 99999));
    e.is("27 the first side of three", 3, x -> x.engrave(0, 2));
    e.bounds("28 no lacquer", (x, n) -> x.failedAt(n), -1, 4, LOW, HIGH);
    e.is("28 the first one", -1, x -> x.failedAt(0));
    e.is("28 the last one", -1, x -> x.failedAt(3));
  }

  /** "8 at most, numbered from 0"; "if there are 8 lacquers". */
  private static void eightLacquers(Due due) {
    Edges e = items(due, 2);
    e.count("27 engrave", 0, 7, x -> x.engrave(0, 2));
    e.state("27 the lacquer 8", x -> x.engrave(0, 2));
    e.none("27 no side is told ahead of that", (x, n) -> x.engrave(n, 2), -1, 2);
    e.unsupported("27 no fit is told ahead of that", x -> x.engrave(0, 1));
    e.argument("27 room is told ahead of that", (x, n) -> x.engrave(0, n), 0, 100000);
    e.is("28 the lacquer 7", -1, x -> x.failedAt(7));
    e.bounds("28 the lacquer 8", x -> x.failedAt(8));
    e.is("29 one is gone", 0, x -> x.father(3));
    e.state("27 there are 8 yet", x -> x.engrave(0, 2));
  }

  private static void cut(Due due, int want, int gap, int... row) {
    Edges e = new Edges(due);
    e.piece(row);
    e.x.add(0, gap);
    e.is("27 engrave", 0, x -> x.engrave(0, 99999));
    String what = "28 behind " + gap + " the row " + java.util.Arrays.toString(row);
    e.is(what, want, x -> x.failedAt(0));
  }

  /** "to the one ahead, or to 0 at first, is by amount greater than 20000 less 8 times its place". */
  private static void firstCuts(Due due) {
    cut(due, -1, 0, 20000);
    cut(due, 0, 0, 20001);
    cut(due, -1, 0, -20000);
    cut(due, 0, 0, -20001);
    cut(due, -1, 1, 19992);
    cut(due, 1, 1, 19993);
    cut(due, -1, 1, -19992);
    cut(due, 1, 1, -19993);
    cut(due, -1, 100, 19200);
    cut(due, 100, 100, 19201);
    cut(due, -1, 0, 10000, -9992);
    cut(due, 1, 0, 10000, -9993);
    cut(due, -1, 0, -10000, 9992);
    cut(due, 1, 0, -10000, 9993);
    cut(due, -1, 0, 20000, 30000, 30000);
    cut(due, 2, 0, 20000, 30000, 0, 30000);
    cut(due, 1, 0, 0, 30000, 0, 30000);
  }

  /** "or than 2000, if that is more": 20000 less 8 times 2250 is 2000. */
  private static void lateCuts(Due due) {
    int[] gaps = {49, 50, 51, 100};
    int[] holds = {2008, 2000, 2000, 2000};
    for (int i = 0; i < gaps.length; i++) {
      for (int sign = -1; sign <= 1; sign += 2) {
        Edges e = new Edges(due);
        e.piece(sign * holds[i]);
        e.piece(sign * (holds[i] + 1));
        int most = e.longSilence(800);
        int some = e.longSilence(600);
        e.x.add(most, 0);
        e.x.add(most, 0);
        e.x.add(some, 0);
        e.x.add(0, gaps[i]);
        String what = "28 at " + (2200 + gaps[i]) + " of " + sign * holds[i];
        e.x.engrave(0, 99999);
        e.is(what, -1, x -> x.failedAt(0));
        e.x.replace(3, 1);
        e.x.engrave(0, 99999);
        e.is(what + " and one", 2200 + gaps[i], x -> x.failedAt(1));
      }
    }
  }

  /** "the first sample of the side, counted from 0 with its gaps". */
  private static void secondSide(Due due) {
    Edges e = new Edges(due);
    e.piece(0, 20000);
    e.piece(19992);
    e.x.add(0, 0);
    e.x.add(1, 1);
    // widths 2 and 6, and 2 and 6
    e.is("25 two sides", 2, x -> x.sides(8));
    e.x.engrave(1, 8);
    e.is("28 place 1, behind a gap", -1, x -> x.failedAt(0));
    e.x.engrave(0, 8);
    e.is("28 20000 at 1", 1, x -> x.failedAt(1));
    e.x.engrave(0, 16);
    e.is("28 both on one side", 1, x -> x.failedAt(2));
    e.piece(20000, 20000);
    e.piece(20001);
    e.x.replace(0, 2);
    e.x.replace(1, 3);
    e.is("25 two sides yet", 2, x -> x.sides(12));
    e.x.engrave(0, 12);
    e.is("28 the first side", -1, x -> x.failedAt(3));
    e.x.engrave(1, 12);
    e.is("28 the second side", 1, x -> x.failedAt(4));
    e.is("28 a lacquer that failed stays so", 1, x -> x.failedAt(1));
  }

  /** "A lacquer that did not fail gives one father, by which it is gone." */
  private static void fathers(Due due) {
    Edges e = items(due, 1);
    e.piece(20001);
    e.x.engrave(0, 9);
    e.x.replace(0, 1);
    e.x.engrave(0, 9);
    e.bounds("29 no lacquer", (x, n) -> x.father(n), -1, 2, LOW, HIGH);
    e.unsupported("29 it failed at 0", x -> x.father(1));
    e.is("29 it did not fail", 0, x -> x.father(0));
    e.unsupported("29 it is gone", x -> x.father(0));
    e.unsupported("29 it failed yet", x -> x.father(1));
    e.is("28 the gone one", -1, x -> x.failedAt(0));
    e.x.replace(0, 0);
    e.x.engrave(0, 9);
    e.is("29 the next one", 1, x -> x.father(2));
    e.piece(0, 20000);
    e.x.replace(0, 2);
    e.x.engrave(0, 9);
    e.is("28 it failed at 1", 1, x -> x.failedAt(3));
    e.unsupported("29 it failed at 1", x -> x.father(3));
  }

  /** "A father gives at most 3 mothers, a mother at most 4 stampers". */
  private static void mothersAndStampers(Due due) {
    Edges e = items(due, 1);
    e.bounds("30 no father", (x, n) -> x.mother(n), 0, -1);
    e.bounds("31 no mother", (x, n) -> x.stamper(n), 0, -1);
    e.x.engrave(0, 2);
    e.x.engrave(0, 2);
    e.x.father(0);
    e.x.father(1);
    e.bounds("30 no father", (x, n) -> x.mother(n), -1, 2, LOW, HIGH);
    e.count("30 mother", 0, 2, x -> x.mother(1));
    e.state("30 a fourth one", x -> x.mother(1));
    e.is("30 by the other father", 3, x -> x.mother(0));
    e.bounds("31 no mother", (x, n) -> x.stamper(n), -1, 4, LOW, HIGH);
    e.count("31 stamper", 0, 3, x -> x.stamper(3));
    e.state("31 a fifth one", x -> x.stamper(3));
    e.count("31 stamper by another mother", 4, 7, x -> x.stamper(0));
    e.state("31 a fifth one by another mother", x -> x.stamper(0));
    e.count("30 mother by the other father", 4, 5, x -> x.mother(0));
    e.state("30 a fourth one by the other father", x -> x.mother(0));
  }

  /** All that 8 lacquers give: 8 fathers, 24 mothers and 96 stampers. */
  private static void allOfThem(Due due) {
    Edges e = items(due, 1);
    for (int i = 0; i < 8; i++) {
      int k = i;
      e.x.engrave(0, 2);
      e.is("29 father", k, x -> x.father(k));
    }
    for (int i = 0; i < 24; i++) {
      int k = i;
      e.is("30 mother", k, x -> x.mother(k / 3));
    }
    for (int i = 0; i < 96; i++) {
      int k = i;
      e.is("31 stamper", k, x -> x.stamper(k / 4));
    }
    e.state("30 no more", x -> x.mother(7));
    e.state("31 no more", x -> x.stamper(23));
    e.bounds("30 no father", x -> x.mother(8));
    e.bounds("31 no mother", x -> x.stamper(24));
    e.bounds("32 no stamper", x -> x.press(96, 1));
    e.is("32 the last stamper", 1, x -> x.press(95, 1));
  }

  /** "1 to 300"; "500 discs at most"; "if it would press more than 500". */
  private static void discs(Due due) {
    Edges e = stampers(due, 2);
    e.bounds("32 no stamper", (x, n) -> x.press(n, 1), -1, 2, LOW, HIGH);
    e.bounds("32 no stamper is told first", (x, n) -> x.press(2, n), 0, 301);
    e.argument("32 many", (x, n) -> x.press(0, n), 0, 301, -1, LOW, HIGH);
    e.arithmetic("48 none was pressed", x -> x.goodShare());
    e.is("32 the least", 1, x -> x.press(0, 1));
    e.is("48 one", 1.0f, x -> x.goodShare());
    // of the discs 2 to 301 the discs 194, 208 and 291 are bad
    e.is("32 the most", 297, x -> x.press(0, 300));
    e.is("48 three of 301 are bad", 298f / 301f, x -> x.goodShare());
    e.state("32 200 more", x -> x.press(0, 200));
    e.state("32 300 more", x -> x.press(0, 300));
    e.argument("32 a number is told ahead of that", (x, n) -> x.press(0, n), 301, HIGH);
    // of the discs 302 to 500 these 8 are bad: 305, 319, 388, 402, 416, 430, 485, 499
    e.is("32 199 more", 191, x -> x.press(0, 199));
    e.state("32 1 more", x -> x.press(0, 1));
    e.argument("32 none more", (x, n) -> x.press(0, n), 0);
    e.is("32 the other stamper", 1, x -> x.press(1, 1));
    e.is("48 of both", 490f / 501f, x -> x.goodShare());
  }

  /** "is bad if the rest of 7 times n by 97 is less than n divided by 100, cut". */
  private static void badDiscs(Due due) {
    Edges e = stampers(due, 1);
    // Each 97 a row of rests 0, 1, 2 .. begins, 14 apart: 97 and 111, 222, 333 and 444 are just good.
    int[] bad = {194, 208, 291, 305, 319, 388, 402, 416, 430, 485, 499};
    int next = 0;
    for (int n = 1; n <= 500; n++) {
      boolean isBad = next < bad.length && bad[next] == n;
      if (isBad) next++;
      e.is("32 the disc " + n, isBad ? 0 : 1, x -> x.press(0, 1));
    }
    e.state("32 the disc 501", x -> x.press(0, 1));
    e.is("48 eleven of 500 are bad", 489f / 500f, x -> x.goodShare());
  }

  public static void main(String[] args) {
    Due due = new Due();
    sides(due);
    eightLacquers(due);
    firstCuts(due);
    lateCuts(due);
    secondSide(due);
    fathers(due);
    mothersAndStampers(due);
    allOfThem(due);
    discs(due);
    badDiscs(due);
    due.end();
  }
}
