/** Promises 1 to 5: a new object, reel, sample, wave, reelLength. */
public final class ReelsTest {
  private static void newObject(Due due) {
    Segueworks x = new Segueworks();
    due.bounds("1 reelLength(0)", () -> x.reelLength(0));
    due.bounds("1 lengthOf(0)", () -> x.lengthOf(0));
    due.bounds("1 startOf(0)", () -> x.startOf(0));
    due.is("1 programLength()", 0, () -> x.programLength());
    due.is("1 sides(1)", 0, () -> x.sides(1));
    due.is("1 checksum()", 7, () -> x.checksum());
    due.is("1 isTrue()", true, () -> x.isTrue());
  }

  private static void reels(Due due) {
    Segueworks x = new Segueworks();
    for (int i = 0; i < 6; i++) {
      int number = i;
      due.is("2 reel()", number, () -> x.reel());
    }
    due.state("2 reel() behind six", () -> x.reel());
    due.is("2 reelLength(5)", 0, () -> x.reelLength(5));
    due.bounds("2 reelLength(6)", () -> x.reelLength(6));
    due.is("2 another object's reel()", 0, () -> new Segueworks().reel());
  }

  private static void samples(Due due) {
    Segueworks x = new Segueworks();
    due.bounds("3 sample(0, 30001) without reels", () -> x.sample(0, 30001));
    x.reel();
    due.is("3 sample(0, 30000)", 1, () -> x.sample(0, 30000));
    due.is("3 sample(0, -30000)", 2, () -> x.sample(0, -30000));
    due.argument("3 sample(0, 30001)", () -> x.sample(0, 30001));
    due.argument("3 sample(0, -30001)", () -> x.sample(0, -30001));
    due.bounds("3 sample(-1, 0)", () -> x.sample(-1, 0));
    due.bounds("3 sample(1, 0)", () -> x.sample(1, 0));
    due.is("3 wave(0, 198, 2, 0)", 200, () -> x.wave(0, 198, 2, 0));
    due.state("3 sample(0, 1) of 201", () -> x.sample(0, 1));
    due.argument("3 sample(0, 30001) of 201", () -> x.sample(0, 30001));
    due.is("3 cut(0, 0, 2)", 0, () -> x.cut(0, 0, 2));
    due.is("3 sampleOf(0, 0)", 30000, () -> x.sampleOf(0, 0));
    due.is("3 sampleOf(0, 1)", -30000, () -> x.sampleOf(0, 1));
  }

  private static void waves(Due due) {
    Segueworks x = new Segueworks();
    due.bounds("4 wave(0, 0, 0, -1)", () -> x.wave(0, 0, 0, -1));
    x.reel();
    due.is("4 wave(0, 5, 3, 1000)", 5, () -> x.wave(0, 5, 3, 1000));
    // k begins anew with each wave
    due.is("4 wave(0, 4, 3, 100)", 9, () -> x.wave(0, 4, 3, 100));
    due.is("4 wave(0, 1, 1, 30000)", 10, () -> x.wave(0, 1, 1, 30000));
    due.is("4 wave(0, 50, 50, 30000)", 60, () -> x.wave(0, 50, 50, 30000));
    int[] want = {-666, 0, 666, -666, 0, -66, 0, 66, -66, 0, -29400};
    due.is("4 cut(0, 0, 60)", 0, () -> x.cut(0, 0, 60));
    for (int i = 0; i < want.length; i++) {
      int k = i;
      due.is("4 sampleOf(0, " + k + ")", want[k], () -> x.sampleOf(0, k));
    }
    due.is("4 sampleOf(0, 59)", 29400, () -> x.sampleOf(0, 59));
    due.argument("4 many 0", () -> x.wave(0, 0, 3, 100));
    due.argument("4 many 201", () -> x.wave(0, 201, 3, 100));
    due.argument("4 period 0", () -> x.wave(0, 1, 0, 100));
    due.argument("4 period 51", () -> x.wave(0, 1, 51, 100));
    due.argument("4 level -1", () -> x.wave(0, 1, 1, -1));
    due.argument("4 level 30001", () -> x.wave(0, 1, 1, 30001));
    due.state("4 141 more", () -> x.wave(0, 141, 3, 100));
    due.is("4 reelLength(0)", 60, () -> x.reelLength(0));
    due.is("4 140 more", 200, () -> x.wave(0, 140, 3, 100));
    due.state("4 1 more", () -> x.wave(0, 1, 3, 100));
  }

  private static void lengths(Due due) {
    Segueworks x = new Segueworks();
    x.reel();
    x.reel();
    x.wave(1, 7, 2, 10);
    due.is("5 reelLength(0)", 0, () -> x.reelLength(0));
    due.is("5 reelLength(1)", 7, () -> x.reelLength(1));
    due.bounds("5 reelLength(2)", () -> x.reelLength(2));
    due.bounds("5 reelLength(-1)", () -> x.reelLength(-1));
    due.bounds("5 reelLength(MIN)", () -> x.reelLength(Integer.MIN_VALUE));
  }

  public static void main(String[] args) {
    Due due = new Due();
    newObject(due);
    reels(due);
    samples(due);
    waves(due);
    lengths(due);
    due.end();
  }
}
