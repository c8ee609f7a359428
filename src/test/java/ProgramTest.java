/** Promises 19 to 26 and 42 to 45: items, sides, shuffles, splits and plays. */
public final class ProgramTest {
  /** An object with pieces of 10, 20, 30 .. silent samples, as many as told. */
  private static Segueworks silences(int many) {
    Segueworks x = new Segueworks();
    for (int i = 1; i <= many; i++) x.silence(10 * i);
    return x;
  }

  private static void adds(Due due) {
    Segueworks x = silences(2);
    due.is("19 add(0, 0)", 0, () -> x.add(0, 0));
    due.is("19 add(1, 100)", 1, () -> x.add(1, 100));
    due.argument("19 gap -1", () -> x.add(0, -1));
    due.argument("19 gap 101", () -> x.add(0, 101));
    due.bounds("19 no piece", () -> x.add(2, 101));
    for (int i = 2; i < 12; i++) x.add(0, 0);
    due.state("19 of 13", () -> x.add(0, 0));
    due.argument("19 of 13, gap 101", () -> x.add(0, 101));
    due.is("23 programLength()", 10 + 120 + 100, () -> x.programLength());
  }

  private static void fullProgram(Due due) {
    Segueworks x = new Segueworks();
    x.silence(200);
    x.splice(0, 0, 0);
    x.splice(1, 1, 0);
    x.silence(99);
    for (int i = 0; i < 3; i++) x.add(2, 0);
    x.add(1, 100);
    due.unsupported("19 of 3001", () -> x.add(3, 2));
    due.is("23 unchanged then", 2900, () -> x.programLength());
    due.is("19 of 3000", 4, () -> x.add(3, 1));
    due.none("24 heard(3000)", () -> x.heard(3000));
    due.is("24 heard(2999)", 0, () -> x.heard(2999));
    due.unsupported("21 of 3101", () -> x.replace(4, 0));
    due.is("23 unchanged again", 3000, () -> x.programLength());
    due.is("21 the same piece", 3, () -> x.replace(4, 3));
    due.bounds("21 no piece", () -> x.replace(0, 4));
    due.bounds("21 no item", () -> x.replace(5, 2));
    due.is("21 to fewer", 2, () -> x.replace(0, 1));
    due.is("21 to 2701", 3, () -> x.replace(4, 0));
    due.is("23 programLength()", 2701, () -> x.programLength());
    due.unsupported("21 of 3101 again", () -> x.replace(0, 2));
    x.replace(4, 3);
    due.is("21 of 3000", 1, () -> x.replace(0, 2));
  }

  private static void programs(Due due) {
    Segueworks x = new Segueworks();
    x.reel();
    x.sample(0, 11);
    x.sample(0, 12);
    x.sample(0, 13);
    x.cut(0, 0, 2);
    x.cut(0, 0, 3);
    due.none("24 heard(0) of none", () -> x.heard(0));
    x.add(0, 2);
    x.add(1, 1);
    x.add(0, 0);
    int[] want = {0, 0, 11, 12, 0, 11, 12, 13, 11, 12};
    for (int i = 0; i < want.length; i++) {
      int k = i;
      due.is("24 heard(" + k + ")", want[k], () -> x.heard(k));
    }
    due.none("24 heard(10)", () -> x.heard(10));
    due.none("24 heard(-1)", () -> x.heard(-1));
    due.is("22 startOf(0)", 2, () -> x.startOf(0));
    due.is("22 startOf(1)", 5, () -> x.startOf(1));
    due.is("22 startOf(2)", 8, () -> x.startOf(2));
    due.bounds("22 startOf(3)", () -> x.startOf(3));
    due.bounds("22 startOf(-1)", () -> x.startOf(-1));
    due.is("21 replace(1, 0)", 1, () -> x.replace(1, 0));
    due.is("21 replace(1, 0) again", 0, () -> x.replace(1, 0));
    due.is("21 heard(7)", 11, () -> x.heard(7));
    due.is("21 startOf(2)", 7, () -> x.startOf(2));
    due.is("23 programLength()", 9, () -> x.programLength());
    due.none("21 heard(9)", () -> x.heard(9));
  }

  private static void locks(Due due) {
    Segueworks x = silences(1);
    due.bounds("20 lock(0) of none", () -> x.lock(0, true));
    x.add(0, 0);
    x.add(0, 0);
    due.is("20 lock(0, true)", false, () -> x.lock(0, true));
    due.is("20 lock(0, true) again", true, () -> x.lock(0, true));
    due.is("20 lock(0, false)", true, () -> x.lock(0, false));
    due.is("20 lock(0, false) again", false, () -> x.lock(0, false));
    due.bounds("20 lock(2, true)", () -> x.lock(2, true));
    due.bounds("20 lock(-1, true)", () -> x.lock(-1, true));
    // The last item's lock holds only when another one comes behind it.
    due.is("20 lock(1, true)", false, () -> x.lock(1, true));
    due.is("20 sides(20)", 2, () -> x.sides(20));
    x.add(0, 0);
    due.unsupported("20 sides(20) then", () -> x.sides(20));
    due.is("20 sides(40) then", 2, () -> x.sides(40));
    due.is("20 sideOf(1, 40)", 1, () -> x.sideOf(1, 40));
    due.is("20 sideOf(2, 40)", 1, () -> x.sideOf(2, 40));
  }

  private static void sides(Due due) {
    Segueworks x = silences(4);
    due.is("25 sides of none", 0, () -> x.sides(1));
    due.argument("25 room 0", () -> x.sides(0));
    due.argument("25 room 100000", () -> x.sides(100000));
    due.bounds("26 no item", () -> x.sideOf(0, 0));
    for (int i = 0; i < 4; i++) x.add(i, 5);
    // widths 30, 50, 70, 90
    due.is("25 sides(240)", 1, () -> x.sides(240));
    due.is("25 sides(239)", 2, () -> x.sides(239));
    due.is("25 sides(90)", 3, () -> x.sides(90));
    due.unsupported("25 sides(89)", () -> x.sides(89));
    due.unsupported("26 sideOf(0, 89)", () -> x.sideOf(0, 89));
    int[] want = {0, 0, 1, 2};
    for (int i = 0; i < 4; i++) {
      int item = i;
      due.is("26 sideOf(" + i + ", 90)", want[i], () -> x.sideOf(item, 90));
    }
    due.argument("26 room 0", () -> x.sideOf(0, 0));
    due.argument("26 room 100000", () -> x.sideOf(0, 100000));
    due.bounds("26 item 4", () -> x.sideOf(4, 0));
    due.bounds("26 item -1", () -> x.sideOf(-1, 89));
    x.lock(1, true);
    due.unsupported("25 locked, sides(119)", () -> x.sides(119));
    due.is("25 locked, sides(120)", 3, () -> x.sides(120));
    due.is("26 locked, sideOf(0, 120)", 0, () -> x.sideOf(0, 120));
    due.is("26 locked, sideOf(1, 120)", 1, () -> x.sideOf(1, 120));
    due.is("25 locked, sides(150)", 2, () -> x.sides(150));
    due.is("25 sides(99999)", 1, () -> x.sides(99999));
  }

  private static void widths(Due due) {
    Segueworks x = new Segueworks();
    x.reel();
    x.sample(0, 4095);
    x.sample(0, -4096);
    x.sample(0, 30000);
    x.cut(0, 0, 3);
    x.add(0, 1);
    // 2 of the gap, 2, 3 and 9
    due.is("25 sides(16)", 1, () -> x.sides(16));
    due.unsupported("25 sides(15)", () -> x.sides(15));
    x.gain(0, 400);
    x.replace(0, 1);
    // 2 of the gap, 2 and 3, 2 and 4, 2 and 7
    due.is("25 sides(22)", 1, () -> x.sides(22));
    due.unsupported("25 sides(21)", () -> x.sides(21));
  }

  private static void shuffles(Due due) {
    Segueworks x = silences(1);
    due.none("42 of none", () -> x.shuffled(1, 0));
    due.argument("42 z 0", () -> x.shuffled(0, 0));
    due.argument("42 z 2147483647", () -> x.shuffled(2147483647, -1));
    for (int i = 0; i < 4; i++) x.add(0, 0);
    // z 48271, 182605794, 1291394886: by 4 3, by 3 0, by 2 0
    int[] alone = {1, 2, 0, 3};
    for (int i = 0; i < 4; i++) {
      int k = i;
      due.is("42 shuffled(1, " + i + ")", alone[i], () -> x.shuffled(1, k));
    }
    x.lock(1, true);
    x.lock(3, true);
    // runs 0, 1 with 2, 3: z 48271 by 3 1, 182605794 by 2 0
    int[] runs = {3, 0, 1, 2};
    for (int i = 0; i < 4; i++) {
      int k = i;
      due.is("42 locked, shuffled(1, " + i + ")", runs[i], () -> x.shuffled(1, k));
    }
    due.none("42 index 4", () -> x.shuffled(1, 4));
    due.none("42 index -1", () -> x.shuffled(2147483646, -1));
    due.argument("42 z -1", () -> x.shuffled(-1, 4));
  }

  private static void splits(Due due) {
    Segueworks x = silences(1);
    due.bounds("43 no item", () -> x.split(0, 8, 101));
    due.bounds("44 no item", () -> x.play(0, 0));
    x.add(0, 0);
    x.add(0, 0);
    due.is("43 split(0, 0, 100)", 0, () -> x.split(0, 0, 100));
    due.unsupported("43 split(0, 7, 1)", () -> x.split(0, 7, 1));
    due.is("43 split(0, 7, 0)", 0, () -> x.split(0, 7, 0));
    due.is("43 split(0, 0, 33)", 67, () -> x.split(0, 0, 33));
    due.is("43 split(0, 7, 67)", 0, () -> x.split(0, 7, 67));
    due.is("43 split(1, 7, 50)", 50, () -> x.split(1, 7, 50));
    due.argument("43 party -1", () -> x.split(0, -1, 1));
    due.argument("43 party 8", () -> x.split(0, 8, 1));
    due.argument("43 hundredths -1", () -> x.split(0, 0, -1));
    due.argument("43 hundredths 101", () -> x.split(0, 0, 101));
    due.is("44 play(0, 1)", 1, () -> x.play(0, 1));
    due.is("44 play(0, 9999)", 10000, () -> x.play(0, 9999));
    due.is("44 play(1, 3)", 3, () -> x.play(1, 3));
    due.argument("44 play(0, 0)", () -> x.play(0, 0));
    due.argument("44 play(0, 10000)", () -> x.play(0, 10000));
    // 9990000 * 33 / 100, and 7 * 10000 * 67 / 100 with 7 * 3 * 50 / 100 cut
    due.is("45 earned(0, 999)", 3296700L, () -> x.earned(0, 999));
    due.is("45 earned(7, 7)", 46900L + 10, () -> x.earned(7, 7));
    due.is("45 earned(1, 1)", 0L, () -> x.earned(1, 1));
    due.argument("45 party 8", () -> x.earned(8, 1));
    due.argument("45 party -1", () -> x.earned(-1, 1));
    due.argument("45 cents 0", () -> x.earned(0, 0));
    due.argument("45 cents 1000", () -> x.earned(0, 1000));
    for (int i = 0; i < 400; i++) x.play(0, 9999);
    due.is("45 beyond an int", (10000L + 400 * 9999) * 999 * 33 / 100, () -> x.earned(0, 999));
  }

  public static void main(String[] args) {
    Due due = new Due();
    adds(due);
    fullProgram(due);
    programs(due);
    locks(due);
    sides(due);
    widths(due);
    shuffles(due);
    splits(due);
    due.end();
  }
}
