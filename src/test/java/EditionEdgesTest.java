import java.util.Arrays;

/** The boundary cases of promises 33 to 40, 46, 47 and 49: editions, damages, repairs, votes. */
public final class EditionEdgesTest {
  private static final int LOW = Edges.LOW;
  private static final int HIGH = Edges.HIGH;
  private static final int[] EIGHT = {5, -3, 8, 1, 9, -7, 4, 6};

  /** An object whose editions are of these rows, each of a reel of its own. */
  private static Edges of(Due due, int[]... rows) {
    Edges e = new Edges(due);
    for (int i = 0; i < rows.length; i++) {
      int piece = e.piece(rows[i]);
      if (i == 0) e.x.add(piece, 0);
      e.x.replace(0, piece);
      e.x.edition(0);
    }
    return e;
  }

  private static int[] row(int... samples) {
    return samples;
  }

  private static void rowIs(Edges e, String what, int edition, int... want) {
    for (int i = 0; i < want.length; i++) {
      int k = i;
      e.is(what + ", sample " + k, want[k], x -> x.editionAt(edition, k));
    }
    e.none(what + ", its end", (x, n) -> x.editionAt(edition, n), want.length, -1, LOW, HIGH);
  }

  /** "an offset of -30 to 30"; "if the program has no items". */
  private static void offsets(Due due) {
    Edges none = new Edges(due);
    none.unsupported("33 no items", x -> x.edition(0));
    none.unsupported("33 no items, the least", x -> x.edition(-30));
    none.unsupported("33 no items, the most", x -> x.edition(30));
    none.argument("33 no items, offset", (x, n) -> x.edition(n), -31, 31, LOW, HIGH);
    Edges e = new Edges(due);
    e.x.reel();
    for (int i = 1; i <= 32; i++) e.x.sample(0, i);
    e.x.add(e.x.cut(0, 0, 32), 0);
    e.argument("33 offset", (x, n) -> x.edition(n), -31, 31, LOW, HIGH);
    e.is("33 the most", 0, x -> x.edition(30));
    e.is("33 the least", 1, x -> x.edition(-30));
    int[] ahead = new int[32];
    ahead[30] = 1;
    ahead[31] = 2;
    rowIs(e, "33 the most", 0, ahead);
    int[] behind = new int[32];
    behind[0] = 31;
    behind[1] = 32;
    rowIs(e, "33 the least", 1, behind);
    e.x.cut(0, 4, 1);
    e.x.replace(0, 1);
    e.is("33 of one sample", 2, x -> x.edition(0));
    e.is("33 of one sample, ahead", 3, x -> x.edition(-1));
    e.is("33 of one sample, behind", 4, x -> x.edition(1));
    rowIs(e, "33 of one sample", 2, 5);
    rowIs(e, "33 of one sample, ahead", 3, 0);
    rowIs(e, "33 of one sample, behind", 4, 0);
    rowIs(e, "33 as it was then", 0, ahead);
  }

  /** "0 where there is none", though the program had samples there before. */
  private static void shorterProgram(Due due) {
    Edges e = new Edges(due);
    e.x.add(e.piece(5, 6, 7, 8), 0);
    e.x.cut(0, 0, 2);
    e.x.replace(0, 1);
    e.is("33 by -1", 0, x -> x.edition(-1));
    e.is("33 by -3", 1, x -> x.edition(-3));
    e.is("33 by 2", 2, x -> x.edition(2));
    rowIs(e, "33 by -1", 0, 6, 0);
    rowIs(e, "33 by -3", 1, 0, 0);
    rowIs(e, "33 by 2", 2, 0, 0);
  }

  /** "At most 5 are numbered from 0"; "if there are 5". */
  private static void fiveEditions(Due due) {
    Edges e = new Edges(due);
    e.x.add(e.piece(7), 0);
    e.count("33 edition", 0, 4, x -> x.edition(0));
    e.state("33 the edition 5", x -> x.edition(0));
    e.state("33 the edition 5, the most", x -> x.edition(30));
    e.argument("33 offset is told ahead of that", (x, n) -> x.edition(n), -31, 31);
    e.is("34 the edition 4", 7, x -> x.editionAt(4, 0));
    e.bounds("34 the edition 5", x -> x.editionAt(5, 0));
  }

  /** An edition of a program of 3000 samples. */
  private static void longEdition(Due due) {
    Edges e = new Edges(due);
    int most = e.longSilence(800);
    int some = e.longSilence(599);
    for (int i = 0; i < 3; i++) e.x.add(most, 0);
    e.x.add(some, 0);
    e.x.add(e.piece(9), 0);
    e.x.edition(0);
    e.x.edition(30);
    e.is("34 the last sample", 9, x -> x.editionAt(0, 2999));
    e.none("34 none", (x, n) -> x.editionAt(0, n), 3000, -1);
    e.is("35 the last sample times 3000", 27000, x -> x.sum(0, 0));
    e.is("35 by -30", 27270, x -> x.sum(0, -30));
    e.is("35 by 30", 26730, x -> x.sum(0, 30));
    e.is("36 the last sample meets none by 1", 1, x -> x.match(0, 1));
    e.is("36 the last sample is met by none by -1", -1, x -> x.match(1, 0));
    e.is("39 the last ones", 1, x -> x.damage(0, 2999, 99));
    e.is("39 beyond them", 1, x -> x.damage(0, 3000, 99));
  }

  /** "if there is no such sample", "if it is not read". */
  private static void asks(Due due) {
    Edges e = of(due, row(4, 5, 6));
    e.bounds("34 no edition", (x, n) -> x.editionAt(n, 0), -1, 1, LOW, HIGH);
    e.bounds("34 no edition is told first", (x, n) -> x.editionAt(1, n), -1, 3);
    e.x.damage(0, 0, 1);
    e.x.damage(0, 2, 1);
    e.unsupported("34 the first is not read", x -> x.editionAt(0, 0));
    e.is("34 the middle is", 5, x -> x.editionAt(0, 1));
    e.unsupported("34 the last is not read", x -> x.editionAt(0, 2));
    e.none("34 none", (x, n) -> x.editionAt(0, n), -1, 3, LOW, HIGH);
  }

  /** "a drive, -30 to 30"; "also beyond its length"; "0 where there is none or it is not read". */
  private static void sums(Due due) {
    Edges e = of(due, row(10, 200, 3000));
    e.argument("35 drive", (x, n) -> x.sum(0, n), -31, 31, LOW, HIGH);
    e.bounds("35 no edition", (x, n) -> x.sum(n, 0), -1, 1, LOW, HIGH);
    e.bounds("35 no edition is told first", (x, n) -> x.sum(1, n), -31, 31);
    e.is("35 by 0", 10 + 400 + 9000, x -> x.sum(0, 0));
    e.is("35 by 1", 200 + 6000, x -> x.sum(0, 1));
    e.is("35 by 2", 3000, x -> x.sum(0, 2));
    e.is("35 by 3", 0, x -> x.sum(0, 3));
    e.is("35 by 30", 0, x -> x.sum(0, 30));
    e.is("35 by -1", 20 + 600 + 12000, x -> x.sum(0, -1));
    e.is("35 by -30", 310 + 6400 + 99000, x -> x.sum(0, -30));
    e.x.damage(0, 1, 1);
    e.is("35 by 0, one not read", 10 + 9000, x -> x.sum(0, 0));
    e.is("35 by -1, one not read", 20 + 12000, x -> x.sum(0, -1));
    e.x.damage(0, 0, 99);
    e.is("35 nothing is read", 0, x -> x.sum(0, -30));
    Edges d = of(due, new int[31]);
    d.x.sample(0, 77);
    d.x.add(d.x.cut(0, 31, 1), 0);
    d.x.edition(0);
    d.is("35 by 30, the last but one is 0", 2 * 77, x -> x.sum(1, 30));
  }

  /** "as an int that may go round": 377 samples make 2147483647, or one more. */
  private static void sumsGoRound(Due due) {
    for (int sign = -1; sign <= 1; sign += 2) {
      Edges e = new Edges(due);
      int[] most = new int[188];
      Arrays.fill(most, sign * 30000);
      e.piece(sign * 29875);
      e.piece(most);
      e.piece(sign * 26174);
      e.piece(sign * 29876);
      e.piece(sign * 29877);
      for (int piece : new int[] {0, 1, 1, 2}) e.x.add(piece, 0);
      for (int piece : new int[] {0, 3, 4}) {
        e.x.replace(0, piece);
        e.x.edition(0);
      }
      e.is("35 up to the end", sign * HIGH, x -> x.sum(0, 0));
      e.is("35 one beyond", sign * HIGH + sign, x -> x.sum(1, 0));
      e.is("35 two beyond", sign * HIGH + 2 * sign, x -> x.sum(2, 0));
    }
  }

  /** "and there are 8 such at least". */
  private static void eightAlike(Due due) {
    Edges e = of(due, EIGHT, Arrays.copyOf(EIGHT, 7), Arrays.copyOf(EIGHT, 9));
    e.is("36 eight", 0, x -> x.match(0, 0));
    e.none("36 seven", x -> x.match(1, 1));
    e.none("36 seven of eight", x -> x.match(0, 1));
    e.none("36 seven of eight the other way", x -> x.match(1, 0));
    e.is("36 eight of nine", 0, x -> x.match(0, 2));
    e.is("36 eight of nine the other way", 0, x -> x.match(2, 0));
    e.x.damage(2, 8, 1);
    e.is("36 eight of nine that are read", 0, x -> x.match(2, 2));
    e.x.damage(2, 0, 1);
    e.none("36 seven of nine that are read", x -> x.match(2, 2));
    e.none("36 seven by the other one", x -> x.match(0, 2));
    e.none("40 seven", x -> x.repair(0, 2));
    e.none("40 seven the other way", x -> x.repair(2, 0));
    e.bounds("36 no edition", (x, n) -> x.match(n, 0), -1, 3, LOW, HIGH);
    e.bounds("36 no other one", (x, n) -> x.match(0, n), -1, 3, LOW, HIGH);
    e.bounds("40 no edition", (x, n) -> x.repair(n, 0), -1, 3, LOW, HIGH);
    e.bounds("40 no other one", (x, n) -> x.repair(0, n), -1, 3, LOW, HIGH);
    e.bounds("40 no other one, and no match", (x, n) -> x.repair(1, n), -1, 3);
  }

  /** "if each sample of one that is read .. is like that": one unlike is too much, if it is read. */
  private static void oneUnlike(Due due) {
    int[] first = new int[10];
    int[] last = new int[10];
    for (int k = 0; k < 10; k++) first[k] = last[k] = k * k;
    first[0]--;
    last[9]++;
    int[] whole = new int[10];
    for (int k = 0; k < 10; k++) whole[k] = k * k;
    Edges e = of(due, whole, first, last);
    e.none("36 the first is unlike", x -> x.match(0, 1));
    e.none("36 the last is unlike", x -> x.match(0, 2));
    e.x.damage(1, 0, 1);
    e.is("36 the unlike one is not read", 0, x -> x.match(0, 1));
    e.is("36 the unlike one is not read there", 0, x -> x.match(1, 0));
    e.x.damage(0, 9, 1);
    e.is("36 its place is not read here", 0, x -> x.match(0, 2));
    e.is("36 both are not read", 0, x -> x.match(0, 1));
  }

  /** "an offset of -60 to 60". */
  private static void farMatches(Due due) {
    Edges e = new Edges(due);
    e.x.reel();
    for (int i = 0; i < 101; i++) e.x.sample(0, 100 + 7 * i);
    // The first edition begins 30 samples on, those behind it 29 or 30 ahead of their program.
    e.x.add(e.x.cut(0, 1, 100), 0);
    e.x.edition(-30);
    e.x.edition(29);
    e.x.edition(30);
    e.x.cut(0, 0, 100);
    e.x.replace(0, 1);
    e.x.edition(30);
    e.is("36 by 59", 59, x -> x.match(0, 1));
    e.is("36 by -59", -59, x -> x.match(1, 0));
    e.x.damage(0, 70, 30);
    e.x.damage(2, 0, 30);
    e.x.damage(3, 0, 30);
    e.is("36 by 60", 60, x -> x.match(0, 2));
    e.is("36 by -60", -60, x -> x.match(2, 0));
    e.none("36 by 61", x -> x.match(0, 3));
    e.none("36 by -61", x -> x.match(3, 0));
    e.is("37 by 60", 'o', x -> x.difference(0, 2));
    e.is("37 by -60", 'o', x -> x.difference(2, 0));
    e.is("37 by 61", 'd', x -> x.difference(0, 3));
    e.is("37 by -61", 'd', x -> x.difference(3, 0));
    e.is("40 by 60", 0, x -> x.repair(0, 2));
    e.none("40 by 61", x -> x.repair(0, 3));
  }

  /** "by the offset with the least amount, of like ones the one below 0". */
  private static void leastOffset(Due due) {
    Edges e = of(due, row(1, 2, 1, 2, 1, 2, 1, 2, 1, 2), row(2, 1, 2, 1, 2, 1, 2, 1, 2, 1));
    e.is("36 -1, not 1", -1, x -> x.match(0, 1));
    e.is("36 -1, not 1, again", -1, x -> x.match(1, 0));
    e.is("36 0, not 2 or -2", 0, x -> x.match(0, 0));
    e.x.damage(0, 0, 1);
    // By -1 the samples 1 to 9 meet 0 to 8, by 1 the samples 1 to 8 meet 2 to 9.
    e.is("36 -1 yet", -1, x -> x.match(0, 1));
    e.x.damage(1, 0, 2);
    e.is("36 1 alone has 8", 1, x -> x.match(0, 1));
    e.is("36 -1 alone has 8", -1, x -> x.match(1, 0));
    e.x.damage(0, 8, 1);
    e.none("36 none has 8", x -> x.match(0, 1));
  }

  /** "the first of these": 's' and 'o' by as many samples and 8 alike, 'l' ahead of 'g'. */
  private static void classes(Due due) {
    Edges e = of(due, EIGHT, Arrays.copyOf(EIGHT, 7), Arrays.copyOf(EIGHT, 9), row(10, -6, 16, 2,
        18, -14, 8, 12));
    e.bounds("37 no edition", (x, n) -> x.difference(n, 0), -1, 4, LOW, HIGH);
    e.bounds("37 no other one", (x, n) -> x.difference(0, n), -1, 4, LOW, HIGH);
    e.is("37 eight alike", 's', x -> x.difference(0, 0));
    e.is("37 seven alike, by a gain of 100", 'g', x -> x.difference(1, 1));
    e.is("37 one less", 'l', x -> x.difference(0, 1));
    e.is("37 one more", 'l', x -> x.difference(0, 2));
    e.is("37 one more, by a gain", 'l', x -> x.difference(3, 2));
    e.is("37 twice", 'g', x -> x.difference(0, 3));
    e.is("37 half", 'g', x -> x.difference(3, 0));
    e.x.damage(3, 0, 8);
    e.is("37 be there none such", 'g', x -> x.difference(0, 3));
    e.is("37 be there none such, itself", 'g', x -> x.difference(3, 3));
    e.is("37 not as many, be there none such", 'l', x -> x.difference(3, 2));
  }

  private static void offsetClass(Due due) {
    int[] one = {1, 2, 3, 4, 5, 6, 7, 8, 9};
    Edges e = of(due, one, row(0, 1, 2, 3, 4, 5, 6, 7, 8), row(0, 0, 1, 2, 3, 4, 5, 6, 7),
        row(0, 1, 2, 3, 4, 5, 6, 7, 8, 9));
    e.is("37 eight alike by 1", 'o', x -> x.difference(0, 1));
    e.is("37 eight alike by -1", 'o', x -> x.difference(1, 0));
    e.is("37 seven alike by 2", 'd', x -> x.difference(0, 2));
    e.is("37 one more, by 1", 'l', x -> x.difference(0, 3));
    e.is("36 one more, by 1", 1, x -> x.match(0, 3));
  }

  private static void gain(Due due, char want, int[] one, int[] two) {
    Edges e = of(due, one, two);
    String what = "37 " + Arrays.toString(one) + " and " + Arrays.toString(two);
    e.is(what, want, x -> x.difference(0, 1));
  }

  /** "there is a gain of 1 to 400 hundredths by which each sample .. becomes that". */
  private static void gains(Due due) {
    gain(due, 'g', row(100), row(1));
    gain(due, 'd', row(100), row(0));
    gain(due, 'g', row(99), row(0));
    gain(due, 'g', row(100), row(400));
    gain(due, 'd', row(100), row(401));
    gain(due, 'd', row(100), row(-100));
    gain(due, 'g', row(0), row(0));
    gain(due, 'd', row(0), row(1));
    gain(due, 'g', row(-100), row(-400));
    gain(due, 'd', row(-100), row(-401));
    gain(due, 'g', row(-100), row(-1));
    gain(due, 'd', row(-100), row(0));
    gain(due, 'g', row(0, 100), row(0, 250));
    gain(due, 'd', row(0, 100), row(1, 250));
    // 3 becomes 7 by 234 to 266, 7 becomes 17 by 243 to 257, 9 becomes 21 by 234 to 244
    gain(due, 'g', row(3, 7, 9), row(7, 17, 21));
    gain(due, 'd', row(3, 7, 9), row(7, 16, 22));
    // 7 becomes 16 by 229 to 242, 9 becomes 22 by 245 to 255
    gain(due, 'd', row(7, 9), row(16, 22));
    gain(due, 'd', row(9, 7), row(22, 16));
    gain(due, 'g', row(9, 7), row(21, 17));
    gain(due, 'd', row(100, 100), row(100, 101));
    gain(due, 'g', row(-3, 7, -9), row(-7, 17, -21));
    // Where both are read: the last one is not, for one or for the other.
    Edges e = of(due, row(100, 100), row(200, 201), row(200, 999));
    e.is("37 both are read", 'd', x -> x.difference(0, 1));
    e.x.damage(1, 1, 1);
    e.is("37 the other one is not read", 'g', x -> x.difference(0, 1));
    e.is("37 the third one is", 'd', x -> x.difference(0, 2));
    e.x.damage(0, 1, 1);
    e.is("37 it is not read", 'g', x -> x.difference(0, 2));
  }

  /** A gain is held to -32768 and 32767, as a piece's is. */
  private static void heldGains(Due due) {
    Edges e = new Edges(due);
    e.piece(100, -100, 30000, -30000);
    e.x.gain(0, 400);
    e.x.add(0, 0);
    e.x.edition(0);
    e.x.replace(0, 1);
    e.x.edition(0);
    e.is("34 held above", 32767, x -> x.editionAt(1, 2));
    e.is("34 held below", -32768, x -> x.editionAt(1, 3));
    e.is("37 held", 'g', x -> x.difference(0, 1));
  }

  /** "the length of the shorter one, if one is longer"; "if they do not differ". */
  private static void places(Due due) {
    Edges e = of(due, row(1, 2, 3), row(1, 2, 3, 4), row(1, 2, 4), row(0, 2, 3));
    e.bounds("38 no edition", (x, n) -> x.differsAt(n, 0), -1, 4, LOW, HIGH);
    e.bounds("38 no other one", (x, n) -> x.differsAt(0, n), -1, 4, LOW, HIGH);
    e.none("38 itself", x -> x.differsAt(0, 0));
    e.is("38 longer", 3, x -> x.differsAt(0, 1));
    e.is("38 shorter", 3, x -> x.differsAt(1, 0));
    e.is("38 the last one", 2, x -> x.differsAt(0, 2));
    e.is("38 the last one, ahead of the end", 2, x -> x.differsAt(1, 2));
    e.is("38 the first one", 0, x -> x.differsAt(0, 3));
    e.is("38 the first of two", 0, x -> x.differsAt(3, 2));
    e.x.damage(2, 2, 1);
    e.none("38 the last one is not read there", x -> x.differsAt(0, 2));
    e.none("38 the last one is not read here", x -> x.differsAt(2, 0));
    e.is("38 not read, and one is longer", 3, x -> x.differsAt(2, 1));
    e.x.damage(1, 0, 99);
    e.is("38 nothing is read, and one is longer", 3, x -> x.differsAt(0, 1));
    e.x.damage(0, 0, 99);
    e.none("38 nothing is read", x -> x.differsAt(0, 3));
  }

  /** "the first one, from 0"; "1 to 99; those that it does not have aside". */
  private static void damages(Due due) {
    Edges e = of(due, new int[120]);
    e.bounds("39 no edition", (x, n) -> x.damage(n, 0, 1), -1, 1, LOW, HIGH);
    e.bounds("39 no edition is told first", (x, n) -> x.damage(1, n, 0), -1);
    e.argument("39 from", (x, n) -> x.damage(0, n, 1), -1, LOW);
    e.argument("39 from, though samples are there", (x, n) -> x.damage(0, n, 99), -1, -98);
    e.argument("39 many", (x, n) -> x.damage(0, 0, n), 0, 100, -1, LOW, HIGH);
    e.argument("39 many beyond the end", (x, n) -> x.damage(0, 120, n), 0, 100);
    e.is("39 beyond the end", 0, x -> x.damage(0, 120, 99));
    e.is("39 far beyond the end", 0, x -> x.damage(0, HIGH, 99));
    e.is("39 just beyond the end", 0, x -> x.damage(0, 120, 1));
    e.is("39 the last one", 1, x -> x.damage(0, 119, 99));
    e.is("39 the last one again", 1, x -> x.damage(0, 119, 1));
    e.is("39 the first one", 2, x -> x.damage(0, 0, 1));
    e.is("39 the most", 100, x -> x.damage(0, 0, 99));
    e.unsupported("34 the sample 98", x -> x.editionAt(0, 98));
    e.is("34 the sample 99", 0, x -> x.editionAt(0, 99));
    e.is("39 up to the end", 120, x -> x.damage(0, 99, 21));
    e.is("39 all", 120, x -> x.damage(0, 0, 99));
  }

  /** "where they are there and read"; "if it does not match". */
  private static void repairs(Due due) {
    int[] ten = {1, 4, 9, 16, 25, 36, 49, 64, 81, 100};
    Edges e = of(due, ten, ten, row(4, 9, 16, 25, 36, 49, 64, 81, 100));
    e.is("40 nothing is damaged", 0, x -> x.repair(0, 1));
    e.x.damage(0, 9, 1);
    e.is("40 the last one", 1, x -> x.repair(0, 1));
    e.is("40 it is there", 100, x -> x.editionAt(0, 9));
    e.x.damage(0, 0, 1);
    e.is("40 the first one is not there by -1", 0, x -> x.repair(0, 2));
    e.unsupported("40 it is not read yet", x -> x.editionAt(0, 0));
    e.is("40 by itself", 0, x -> x.repair(0, 0));
    e.x.damage(0, 9, 1);
    e.is("40 the last one by -1", 1, x -> x.repair(0, 2));
    e.is("40 it is there again", 100, x -> x.editionAt(0, 9));
    e.is("40 the first one", 1, x -> x.repair(0, 1));
    e.is("40 the first one is there", 1, x -> x.editionAt(0, 0));
    e.x.damage(0, 3, 2);
    e.x.damage(1, 4, 1);
    e.is("40 one of two is read there", 1, x -> x.repair(0, 1));
    e.is("40 it gets that", 16, x -> x.editionAt(0, 3));
    e.unsupported("40 it does not get the other", x -> x.editionAt(0, 4));
    e.x.damage(0, 0, 1);
    e.is("40 eight are alike, one is got", 1, x -> x.repair(0, 1));
    e.x.damage(0, 0, 2);
    e.none("40 seven are alike", x -> x.repair(0, 1));
    e.is("34 the other one stays", 36, x -> x.editionAt(1, 5));
  }

  /** "Judges, 0 to 9", "marks of 0 to 10, anew in place of the earlier one". */
  private static void votes(Due due) {
    Edges e = of(due, row(1), row(2));
    e.bounds("46 no edition", (x, n) -> x.vote(n, 0, 0), -1, 2, LOW, HIGH);
    e.bounds("46 no edition is told first", (x, n) -> x.vote(2, n, n), -1, 11);
    e.argument("46 judge", (x, n) -> x.vote(0, n, 0), -1, 10, LOW, HIGH);
    e.argument("46 mark", (x, n) -> x.vote(0, 0, n), -1, 11, LOW, HIGH);
    e.arithmetic("49 no marks", x -> x.meanMark(0));
    e.none("47 no marks", x -> x.favourite());
    e.bounds("49 no edition", (x, n) -> x.meanMark(n), -1, 2, LOW, HIGH);
    for (int i = 0; i < 10; i++) {
      int judge = i;
      e.is("46 judge " + judge, judge + 1, x -> x.vote(0, judge, 10));
    }
    e.is("49 the most", 10.0, x -> x.meanMark(0));
    e.argument("46 the judge 10", x -> x.vote(0, 10, 0));
    for (int i = 0; i < 10; i++) {
      int judge = i;
      e.is("46 judge anew " + judge, 10, x -> x.vote(0, judge, 0));
    }
    e.is("49 the least", 0.0, x -> x.meanMark(0));
    e.arithmetic("49 the other one has none", x -> x.meanMark(1));
    e.is("46 the last judge anew", 10, x -> x.vote(0, 9, 1));
    e.is("49 a tenth", 0.1, x -> x.meanMark(0));
  }

  /** "of those with marks whose mean mark is greatest, of like ones the lowest". */
  private static void favourites(Due due) {
    Edges e = of(due, row(1), row(2), row(3), row(4), row(5));
    e.is("46 the last one, a mark of 0", 1, x -> x.vote(4, 0, 0));
    e.is("47 the only one with marks", 4, x -> x.favourite());
    e.x.vote(3, 0, 0);
    e.is("47 the lower of like ones", 3, x -> x.favourite());
    e.x.vote(4, 1, 1);
    e.is("47 a half", 4, x -> x.favourite());
    e.x.vote(0, 0, 5);
    e.x.vote(0, 1, 5);
    e.x.vote(0, 2, 6);
    e.is("47 16 by 3", 0, x -> x.favourite());
    e.x.vote(2, 0, 5);
    e.is("47 5 is less than 16 by 3", 0, x -> x.favourite());
    e.x.vote(2, 1, 6);
    e.is("47 11 by 2 is more than 16 by 3", 2, x -> x.favourite());
    e.x.vote(0, 3, 6);
    e.is("47 22 by 4 is like 11 by 2", 0, x -> x.favourite());
    e.x.vote(2, 2, 6);
    e.is("47 17 by 3 is more", 2, x -> x.favourite());
    e.x.vote(1, 9, 10);
    e.is("47 one mark of 10", 1, x -> x.favourite());
  }

  public static void main(String[] args) {
    Due due = new Due();
    offsets(due);
    shorterProgram(due);
    fiveEditions(due);
    longEdition(due);
    asks(due);
    sums(due);
    sumsGoRound(due);
    eightAlike(due);
    oneUnlike(due);
    farMatches(due);
    leastOffset(due);
    classes(due);
    offsetClass(due);
    gains(due);
    heldGains(due);
    places(due);
    damages(due);
    repairs(due);
    votes(due);
    favourites(due);
    due.end();
  }
}
