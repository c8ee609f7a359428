/** Promises 33 to 40, 46, 47 and 49: editions, damages, repairs, votes. */
public final class EditionsTest {
  private static final int[] ROW = {5, -3, 8, 1, 9, -7, 4, 6, 2, -5};

  /** An object whose program is one item of these samples. */
  private static Segueworks program(int... samples) {
    Segueworks x = new Segueworks();
    x.reel();
    for (int value : samples) x.sample(0, value);
    x.cut(0, 0, samples.length);
    x.add(0, 0);
    return x;
  }

  /** Puts samples that a new reel has into the program's item 0, and makes an edition of it. */
  private static int editionOf(Segueworks x, int... samples) {
    int reel = x.reel();
    for (int value : samples) x.sample(reel, value);
    x.replace(0, x.cut(reel, 0, samples.length));
    return x.edition(0);
  }

  private static void rowIs(Due due, String what, Segueworks x, int edition, int... want) {
    for (int i = 0; i < want.length; i++) {
      int k = i;
      due.is(what + " at " + k, want[k], () -> x.editionAt(edition, k));
    }
    due.none(what + " at the end", () -> x.editionAt(edition, want.length));
  }

  private static void editions(Due due) {
    Segueworks none = new Segueworks();
    due.unsupported("33 no items", () -> none.edition(30));
    due.argument("33 no items, 31", () -> none.edition(31));
    due.bounds("34 no edition", () -> none.editionAt(0, 0));
    Segueworks x = program(1, 2, 3);
    due.is("33 edition(0)", 0, () -> x.edition(0));
    due.is("33 edition(2)", 1, () -> x.edition(2));
    due.is("33 edition(-1)", 2, () -> x.edition(-1));
    due.is("33 edition(30)", 3, () -> x.edition(30));
    due.argument("33 edition(-31)", () -> x.edition(-31));
    x.gain(0, 200);
    x.replace(0, 1);
    due.is("33 edition(-30)", 4, () -> x.edition(-30));
    due.state("33 of 6", () -> x.edition(0));
    due.argument("33 of 6, 31", () -> x.edition(31));
    rowIs(due, "34 0", x, 0, 1, 2, 3);
    rowIs(due, "34 2", x, 1, 0, 0, 1);
    rowIs(due, "34 -1", x, 2, 2, 3, 0);
    rowIs(due, "34 30", x, 3, 0, 0, 0);
    due.none("34 editionAt(0, -1)", () -> x.editionAt(0, -1));
    due.bounds("34 editionAt(5, -1)", () -> x.editionAt(5, -1));
    x.damage(0, 1, 1);
    due.unsupported("34 not read", () -> x.editionAt(0, 1));
    due.is("34 beside it", 3, () -> x.editionAt(0, 2));
  }

  private static void shorterProgram(Due due) {
    Segueworks x = program(1, 2, 3);
    x.replace(0, x.cut(0, 1, 1));
    x.edition(-1);
    rowIs(due, "33 of a program that was longer", x, 0, 0);
    x.replace(0, 0);
    rowIs(due, "33 of a program that is longer", x, 0, 0);
  }

  private static void sums(Due due) {
    Segueworks x = program(10, 20, 30);
    x.edition(0);
    due.is("35 sum(0, 0)", 10 + 40 + 90, () -> x.sum(0, 0));
    due.is("35 sum(0, 1)", 20 + 60, () -> x.sum(0, 1));
    due.is("35 sum(0, 3)", 0, () -> x.sum(0, 3));
    due.is("35 sum(0, -1)", 20 + 60 + 120, () -> x.sum(0, -1));
    due.is("35 sum(0, -30)", 310 + 640 + 990, () -> x.sum(0, -30));
    due.is("35 sum(0, 30)", 0, () -> x.sum(0, 30));
    due.argument("35 drive 31", () -> x.sum(0, 31));
    due.argument("35 drive -31", () -> x.sum(0, -31));
    due.bounds("35 no edition", () -> x.sum(1, 31));
    x.damage(0, 1, 1);
    due.is("35 sum(0, 0) then", 10 + 90, () -> x.sum(0, 0));
    Segueworks loud = new Segueworks();
    loud.reel();
    loud.wave(0, 200, 1, 0);
    loud.reel();
    for (int i = 0; i < 200; i++) loud.sample(1, 30000);
    loud.cut(1, 0, 200);
    for (int i = 0; i < 12; i++) loud.add(0, 0);
    loud.edition(0);
    long all = 30000L * 2400 * 2401 / 2;
    due.is("35 goes round", (int) all, () -> loud.sum(0, 0));
  }

  private static void matches(Due due) {
    Segueworks x = program(ROW);
    x.edition(0);
    x.edition(2);
    x.edition(3);
    due.is("36 match(0, 0)", 0, () -> x.match(0, 0));
    due.is("36 match(0, 1)", 2, () -> x.match(0, 1));
    due.is("36 match(1, 0)", -2, () -> x.match(1, 0));
    // By 3 there are 7 alike only, and by 1 the others differ.
    due.none("36 match(0, 2)", () -> x.match(0, 2));
    due.bounds("36 match(3, 0)", () -> x.match(3, 0));
    due.bounds("36 match(0, 3)", () -> x.match(0, 3));
    due.bounds("36 match(0, -1)", () -> x.match(0, -1));
    x.damage(0, 9, 1);
    due.is("36 damaged beyond the overlap", 2, () -> x.match(0, 1));
    x.damage(0, 0, 1);
    due.none("36 7 alike", () -> x.match(0, 1));
    due.is("36 8 read", 0, () -> x.match(0, 0));
    x.damage(0, 5, 1);
    due.none("36 7 read", () -> x.match(0, 0));
    Segueworks silent = new Segueworks();
    silent.silence(20);
    silent.add(0, 0);
    silent.edition(0);
    due.is("36 the least amount", 0, () -> silent.match(0, 0));
    // A period of 2: by -1 and by 1 they match, and -1 is the one below 0.
    Segueworks wave = program(1, -1, 1, -1, 1, -1, 1, -1, 1, -1);
    wave.edition(0);
    editionOf(wave, -1, 1, -1, 1, -1, 1, -1, 1, -1, 1);
    due.is("36 the one below 0", -1, () -> wave.match(0, 1));
    due.is("36 the one below 0 again", -1, () -> wave.match(1, 0));
  }

  private static void farMatches(Due due) {
    Segueworks x = new Segueworks();
    x.reel();
    for (int i = 0; i < 120; i++) x.sample(0, 100 + 7 * i);
    // Behind an offset of 29 or -30 the sample k is that of the reel at k and 60, 1, 0 or -1.
    x.add(x.cut(0, 30, 90), 0);
    x.edition(-30);
    x.edition(29);
    x.replace(0, x.cut(0, 29, 90));
    x.edition(29);
    x.replace(0, x.cut(0, 28, 90));
    x.edition(29);
    due.is("36 by 59", 59, () -> x.match(0, 1));
    due.is("36 by 60", 60, () -> x.match(0, 2));
    due.is("36 by -60", -60, () -> x.match(2, 0));
    due.none("36 by 61", () -> x.match(0, 3));
    due.none("36 by -61", () -> x.match(3, 0));
  }

  private static void differences(Due due) {
    Segueworks x = program(ROW);
    x.edition(0);
    x.edition(1);
    due.is("37 's'", 's', () -> x.difference(0, 0));
    due.is("37 'o'", 'o', () -> x.difference(0, 1));
    int twice = editionOf(x, 10, -6, 16, 2, 18, -14, 8, 12, 4, -10);
    due.is("37 'g' up", 'g', () -> x.difference(0, twice));
    due.is("37 'g' down", 'g', () -> x.difference(twice, 0));
    int other = editionOf(x, 10, -6, 16, 2, 18, -14, 8, 12, 4, 10);
    due.is("37 'd'", 'd', () -> x.difference(0, other));
    x.damage(other, 9, 1);
    due.is("37 'g' where both are read", 'g', () -> x.difference(0, other));
    x.damage(0, 0, 99);
    due.is("37 'g' without any", 'g', () -> x.difference(0, other));
    int longer = editionOf(x, 5, -3, 8, 1, 9, -7, 4, 6, 2, -5, 3);
    due.is("37 'l'", 'l', () -> x.difference(1, longer));
    due.bounds("37 difference(5, 0)", () -> x.difference(5, 0));
    due.bounds("37 difference(0, -1)", () -> x.difference(0, -1));
  }

  private static void gainEdges(Due due) {
    Segueworks x = program(100, -20000, 0, 30, 40, 50, 60, 70, 80, 90);
    x.edition(0);
    x.gain(0, 400);
    x.replace(0, 1);
    x.edition(0);
    due.is("37 400, held", 'g', () -> x.difference(0, 1));
    x.gain(0, 1);
    x.replace(0, 2);
    x.edition(0);
    due.is("37 1", 'g', () -> x.difference(0, 2));
    x.gain(0, 0);
    x.replace(0, 3);
    x.edition(0);
    due.is("37 0 is no gain", 'd', () -> x.difference(0, 3));
    due.is("37 nothing becomes something", 'd', () -> x.difference(3, 0));
    // 100 wants 100 to 100, 101 wants 99
    Segueworks y = program(100, 101);
    y.edition(0);
    int bent = editionOf(y, 100, 99);
    due.is("37 no one gain", 'd', () -> y.difference(0, bent));
  }

  private static void places(Due due) {
    Segueworks x = program(1, 2, 3, 4);
    x.edition(0);
    int other = editionOf(x, 1, 9, 3, 8);
    int longer = editionOf(x, 1, 2, 3, 4, 5);
    int first = editionOf(x, 7, 2, 3, 4);
    due.is("38 at 0", 0, () -> x.differsAt(0, first));
    due.is("38 the first", 1, () -> x.differsAt(0, other));
    x.damage(other, 1, 1);
    due.is("38 where both are read", 3, () -> x.differsAt(0, other));
    x.damage(0, 3, 1);
    due.none("38 not", () -> x.differsAt(0, other));
    due.none("38 itself", () -> x.differsAt(0, 0));
    due.is("38 longer", 4, () -> x.differsAt(0, longer));
    due.is("38 shorter", 4, () -> x.differsAt(longer, 0));
    due.is("38 ahead of that", 3, () -> x.differsAt(longer, other));
    due.bounds("38 no edition", () -> x.differsAt(0, 4));
    due.bounds("38 no edition at first", () -> x.differsAt(-1, 0));
  }

  private static void damages(Due due) {
    Segueworks x = program(ROW);
    x.edition(0);
    due.is("39 damage(0, 8, 99)", 2, () -> x.damage(0, 8, 99));
    due.is("39 damage(0, 8, 1)", 2, () -> x.damage(0, 8, 1));
    due.is("39 damage(0, 0, 1)", 3, () -> x.damage(0, 0, 1));
    due.is("39 beyond all", 3, () -> x.damage(0, 10, 1));
    due.is("39 from MAX", 3, () -> x.damage(0, Integer.MAX_VALUE, 99));
    due.argument("39 from -1", () -> x.damage(0, -1, 2));
    due.argument("39 many 0", () -> x.damage(0, 0, 0));
    due.argument("39 many 100", () -> x.damage(0, 0, 100));
    due.bounds("39 no edition", () -> x.damage(1, -1, 0));
    due.is("39 the others are read", -3, () -> x.editionAt(0, 1));
    due.unsupported("39 the last is not", () -> x.editionAt(0, 9));
  }

  private static void repairs(Due due) {
    Segueworks x = program(ROW);
    x.edition(0);
    x.edition(0);
    x.edition(1);
    x.damage(0, 0, 2);
    x.damage(1, 1, 1);
    due.is("40 repair(0, 1)", 1, () -> x.repair(0, 1));
    due.is("40 it gets", 5, () -> x.editionAt(0, 0));
    due.unsupported("40 it does not get", () -> x.editionAt(0, 1));
    due.is("40 by itself", 0, () -> x.repair(0, 0));
    due.is("40 at an offset", 1, () -> x.repair(0, 2));
    due.is("40 it gets then", -3, () -> x.editionAt(0, 1));
    x.damage(0, 3, 1);
    x.damage(2, 4, 1);
    due.is("40 not read at the offset", 0, () -> x.repair(0, 2));
    x.repair(0, 1);
    x.damage(0, 9, 1);
    due.is("40 the other one ends ahead", 0, () -> x.repair(0, 2));
    x.damage(1, 0, 3);
    due.none("40 no match", () -> x.repair(1, 2));
    due.bounds("40 no edition", () -> x.repair(0, 3));
    due.bounds("40 no edition at first", () -> x.repair(3, 0));
  }

  private static void votes(Due due) {
    Segueworks x = program(1);
    due.none("47 no editions", () -> x.favourite());
    due.bounds("46 no edition", () -> x.vote(0, 10, 11));
    x.edition(0);
    x.edition(0);
    x.edition(0);
    due.none("47 no marks", () -> x.favourite());
    due.arithmetic("49 no marks", () -> x.meanMark(0));
    due.bounds("49 no edition", () -> x.meanMark(3));
    due.is("46 vote(2, 0, 0)", 1, () -> x.vote(2, 0, 0));
    due.is("47 of marks of 0", 2, () -> x.favourite());
    due.is("46 vote(0, 0, 6)", 1, () -> x.vote(0, 0, 6));
    due.is("46 vote(0, 9, 7)", 2, () -> x.vote(0, 9, 7));
    due.is("46 vote(0, 5, 7)", 3, () -> x.vote(0, 5, 7));
    due.is("49 of three", 20.0 / 3.0, () -> x.meanMark(0));
    due.is("46 vote(1, 0, 6)", 1, () -> x.vote(1, 0, 6));
    due.is("47 by the mean", 0, () -> x.favourite());
    due.is("46 anew", 1, () -> x.vote(1, 0, 7));
    due.is("49 anew", 7.0, () -> x.meanMark(1));
    due.is("47 by the mean then", 1, () -> x.favourite());
    x.vote(0, 0, 7);
    due.is("47 the lowest", 0, () -> x.favourite());
    due.argument("46 judge 10", () -> x.vote(0, 10, 1));
    due.argument("46 judge -1", () -> x.vote(0, -1, 1));
    due.argument("46 mark 11", () -> x.vote(0, 0, 11));
    due.argument("46 mark -1", () -> x.vote(0, 0, -1));
    due.is("49 unchanged", 7.0, () -> x.meanMark(0));
  }

  public static void main(String[] args) {
    Due due = new Due();
    editions(due);
    shorterProgram(due);
    sums(due);
    matches(due);
    farMatches(due);
    differences(due);
    gainEdges(due);
    places(due);
    damages(due);
    repairs(due);
    votes(due);
    due.end();
  }
}
