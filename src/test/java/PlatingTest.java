/** Promises 27 to 32 and 48: lacquers, fathers, mothers, stampers, discs. */
public final class PlatingTest {
  /** An object with one silent item of one sample. */
  private static Segueworks silent() {
    Segueworks x = new Segueworks();
    x.silence(1);
    x.add(0, 0);
    return x;
  }

  private static int failing(int gap, int... samples) {
    Segueworks x = new Segueworks();
    x.reel();
    for (int value : samples) x.sample(0, value);
    x.cut(0, 0, samples.length);
    x.add(0, gap);
    x.engrave(0, 99999);
    return x.failedAt(0);
  }

  private static void engraves(Due due) {
    Segueworks none = new Segueworks();
    due.none("27 without items", () -> none.engrave(0, 1));
    due.argument("27 room 0", () -> none.engrave(0, 0));
    due.argument("27 room 100000", () -> none.engrave(-1, 100000));
    Segueworks x = silent();
    x.add(0, 0);
    due.unsupported("27 no fit", () -> x.engrave(5, 1));
    due.none("27 side 2", () -> x.engrave(2, 3));
    due.none("27 side -1", () -> x.engrave(-1, 3));
    due.unsupported("27 side -1, no fit", () -> x.engrave(-1, 1));
    due.is("27 engrave(1, 3)", 0, () -> x.engrave(1, 3));
    due.bounds("28 failedAt(1)", () -> x.failedAt(1));
    due.bounds("28 failedAt(-1)", () -> x.failedAt(-1));
    due.is("28 failedAt(0)", -1, () -> x.failedAt(0));
    for (int i = 1; i < 8; i++) {
      int number = i;
      due.is("27 engrave(0, 3)", number, () -> x.engrave(0, 3));
    }
    due.state("27 of 9", () -> x.engrave(0, 3));
    due.none("27 of 9, side 2", () -> x.engrave(2, 3));
  }

  private static void fails(Due due) {
    due.is("28 20000 at first", -1, () -> failing(0, 20000));
    due.is("28 20001 at first", 0, () -> failing(0, 20001));
    due.is("28 -20001 at first", 0, () -> failing(0, -20001));
    due.is("28 19992 at 1", -1, () -> failing(1, 19992));
    due.is("28 19993 at 1", 1, () -> failing(1, 19993));
    due.is("28 a step down", 1, () -> failing(0, 10000, -9993));
    due.is("28 a step down that holds", -1, () -> failing(0, 10000, -9992));
    due.is("28 the first of two", 1, () -> failing(0, 10000, -10000, 10000));
    int[] late = new int[200];
    late[199] = 20000 - 8 * 299;
    due.is("28 at 299", -1, () -> failing(100, late));
    late[199]++;
    due.is("28 at 299, 1 more", 299, () -> failing(100, late));
  }

  private static void lateFails(Due due) {
    Segueworks x = new Segueworks();
    x.silence(200);
    x.splice(0, 0, 0);
    x.splice(1, 1, 0);
    x.reel();
    x.sample(0, 2000);
    x.sample(0, 2001);
    x.cut(0, 0, 1);
    x.cut(0, 1, 1);
    for (int i = 0; i < 3; i++) x.add(2, 0);
    x.add(3, 0);
    x.engrave(0, 99999);
    due.is("28 2000 at 2400", -1, () -> x.failedAt(0));
    x.replace(3, 4);
    x.engrave(0, 99999);
    due.is("28 2001 at 2400", 2400, () -> x.failedAt(1));
    due.is("28 the first lacquer stays", -1, () -> x.failedAt(0));
    // A side begins anew: the last one, 1602 wide, has its sample at 800.
    due.is("28 sides(1602)", 3, () -> x.sides(1602));
    x.engrave(2, 1602);
    due.is("28 2001 at 800", -1, () -> x.failedAt(2));
    x.replace(3, 3);
    due.is("28 a lacquer that failed stays so", 2400, () -> x.failedAt(1));
  }

  private static void sidesApart(Due due) {
    Segueworks x = silent();
    x.reel();
    x.sample(0, 30000);
    x.add(x.cut(0, 0, 1), 0);
    x.add(0, 0);
    // widths 2, 9 and 2
    x.engrave(0, 10);
    x.engrave(1, 10);
    x.engrave(2, 10);
    x.engrave(0, 11);
    due.is("28 the side ahead", -1, () -> x.failedAt(0));
    due.is("28 the side itself", 0, () -> x.failedAt(1));
    due.is("28 the side behind", -1, () -> x.failedAt(2));
    due.is("28 on one side", 1, () -> x.failedAt(3));
  }

  private static void plates(Due due) {
    Segueworks x = silent();
    x.reel();
    x.sample(0, 30000);
    x.cut(0, 0, 1);
    x.engrave(0, 9);
    x.engrave(0, 9);
    x.replace(0, 1);
    x.engrave(0, 9);
    due.bounds("29 father(3)", () -> x.father(3));
    due.bounds("29 father(-1)", () -> x.father(-1));
    due.unsupported("29 it failed", () -> x.father(2));
    due.is("29 father(1)", 0, () -> x.father(1));
    due.unsupported("29 it is gone", () -> x.father(1));
    due.is("29 failedAt(1) of a gone one", -1, () -> x.failedAt(1));
    due.is("29 father(0)", 1, () -> x.father(0));
    due.bounds("30 mother(2)", () -> x.mother(2));
    for (int i = 0; i < 3; i++) {
      int number = i;
      due.is("30 mother(1)", number, () -> x.mother(1));
    }
    due.state("30 mother(1) of 4", () -> x.mother(1));
    due.is("30 mother(0)", 3, () -> x.mother(0));
    due.bounds("30 mother(-1)", () -> x.mother(-1));
    due.bounds("31 stamper(4)", () -> x.stamper(4));
    due.bounds("31 stamper(-1)", () -> x.stamper(-1));
    for (int i = 0; i < 4; i++) {
      int number = i;
      due.is("31 stamper(3)", number, () -> x.stamper(3));
    }
    due.state("31 stamper(3) of 5", () -> x.stamper(3));
    due.is("31 stamper(0)", 4, () -> x.stamper(0));
  }

  private static void allPlates(Due due) {
    Segueworks x = silent();
    for (int i = 0; i < 8; i++) x.father(x.engrave(0, 9));
    for (int i = 0; i < 24; i++) x.mother(i / 3);
    for (int i = 0; i < 96; i++) {
      int number = i;
      due.is("31 stamper()", number, () -> x.stamper(number / 4));
    }
    due.state("31 the last mother", () -> x.stamper(23));
    due.state("30 the last father", () -> x.mother(7));
    due.is("32 press(95, 1)", 1, () -> x.press(95, 1));
  }

  private static void discs(Due due) {
    Segueworks x = silent();
    x.engrave(0, 9);
    x.father(0);
    x.mother(0);
    due.bounds("32 no stamper", () -> x.press(0, 0));
    due.arithmetic("48 none pressed", () -> x.goodShare());
    x.stamper(0);
    due.argument("32 press(0, 0)", () -> x.press(0, 0));
    due.argument("32 press(0, 301)", () -> x.press(0, 301));
    due.arithmetic("48 still none pressed", () -> x.goodShare());
    due.is("32 press(0, 99)", 99, () -> x.press(0, 99));
    due.is("48 all good", 1.0f, () -> x.goodShare());
    // disc 194 is 7 * 194 = 14 * 97: its rest 0 is less than 1
    due.is("32 press(0, 94)", 94, () -> x.press(0, 94));
    due.is("32 press(0, 1)", 0, () -> x.press(0, 1));
    due.is("48 193 of 194", 193f / 194f, () -> x.goodShare());
    due.is("32 press(0, 300)", badless(195, 300), () -> x.press(0, 300));
    due.argument("32 press(0, 301) of 500", () -> x.press(0, 301));
    due.state("32 press(0, 7)", () -> x.press(0, 7));
    due.is("32 press(0, 6)", badless(495, 6), () -> x.press(0, 6));
    due.state("32 press(0, 1) of 501", () -> x.press(0, 1));
    x.stamper(0);
    due.is("32 press(1, 100)", 100, () -> x.press(1, 100));
    float good = 193 + badless(195, 306) + 100;
    due.is("48 of both", good / 600f, () -> x.goodShare());
  }

  private static int badless(int first, int many) {
    int good = 0;
    for (int n = first; n < first + many; n++) {
      if (!((7 * n) % 97 < n / 100)) good++;
    }
    return good;
  }

  public static void main(String[] args) {
    Due due = new Due();
    engraves(due);
    fails(due);
    lateFails(due);
    sidesApart(due);
    plates(due);
    allPlates(due);
    discs(due);
    due.end();
  }
}
