import java.lang.reflect.Array;
import java.lang.reflect.Field;

/** Promises 50 and 51, checksum and isTrue, and that a call that throws changes nothing. */
public final class WholeTest {
  private static Segueworks worked() {
    Segueworks x = new Segueworks();
    x.reel();
    x.wave(0, 60, 7, 9000);
    x.cut(0, 0, 30);
    x.silence(4);
    x.splice(0, 1, 3);
    x.gain(2, 350);
    x.back(3);
    x.limit(4, 2000, 9, 7);
    x.resample(5, 4, 3);
    x.dither(6, 99);
    x.add(7, 3);
    x.add(1, 0);
    x.add(3, 100);
    return x;
  }

  private static void sums(Due due) {
    Segueworks x = new Segueworks();
    due.is("50 at first", 7, () -> x.checksum());
    x.reel();
    x.sample(0, 9);
    x.sample(0, -4);
    due.is("50 reels aside", 7, () -> x.checksum());
    x.cut(0, 0, 2);
    long piece = (7 * 31 + 2) * 31 - 4;
    due.is("50 a piece", piece, () -> x.checksum());
    x.add(0, 3);
    long item = piece * 31;
    due.is("50 an item", item, () -> x.checksum());
    x.engrave(0, 99);
    long lacquer = item * 31 - 1;
    due.is("50 a lacquer", lacquer, () -> x.checksum());
    x.father(0);
    x.mother(0);
    due.is("50 fathers and mothers aside", lacquer, () -> x.checksum());
    x.stamper(0);
    due.is("50 a stamper", lacquer * 31, () -> x.checksum());
    x.press(0, 17);
    due.is("50 its discs", lacquer * 31 + 17, () -> x.checksum());
    x.edition(0);
    due.is("50 an edition", (lacquer * 31 + 17) * 31 + 9 * 4 - 4 * 5, () -> x.checksum());
    x.damage(0, 3, 1);
    due.is("50 a damaged one", (lacquer * 31 + 17) * 31 - 4 * 5, () -> x.checksum());
    for (int i = 0; i < 23; i++) x.silence(1);
    x.add(5, 0);
    long many = piece;
    for (int i = 0; i < 23; i++) many = (many * 31 + 1) * 31;
    long round = ((((many * 31 * 31 + 5) * 31 - 1) * 31) + 17) * 31 - 20;
    due.is("50 goes round", round, () -> x.checksum());
  }

  private static void truths(Due due) {
    due.is("51 a new one", true, () -> new Segueworks().isTrue());
    Segueworks x = worked();
    due.is("51 worked", true, () -> x.isTrue());
    x.wave(0, 60, 3, 1);
    due.is("51 a longer reel", true, () -> x.isTrue());
    x.replace(0, 2);
    x.edition(5);
    x.edition(-30);
    due.is("51 replaced", true, () -> x.isTrue());
    x.split(0, 0, 60);
    x.split(0, 1, 40);
    x.replace(2, 1);
    due.is("51 split", true, () -> x.isTrue());
    for (int from = 0; from < 300; from += 99) x.damage(1, from, 99);
    due.none("51 nothing read", () -> x.match(1, 1));
    due.is("51 nothing read", true, () -> x.isTrue());
  }

  private static Object heldBy(Object of, String field) {
    try {
      Field held = of.getClass().getDeclaredField(field);
      held.setAccessible(true);
      return held.get(of);
    } catch (ReflectiveOperationException e) {
      throw new IllegalStateException(e);
    }
  }

  /** Bends one number inside the object: what no call does, so that isTrue has to tell. */
  private static void bent(Due due, String what, Segueworks x, Object row, int at) {
    for (int more : new int[] {101, -101}) {
      Array.setInt(row, at, Array.getInt(row, at) + more);
      due.is("51 with a bent " + what + " of " + more, false, () -> x.isTrue());
      Array.setInt(row, at, Array.getInt(row, at) - more);
    }
    due.is("51 without a bent " + what, true, () -> x.isTrue());
  }

  /** "the program is its items one behind the other", not a sample more and not one less. */
  private static void bentLength(Due due) {
    Segueworks x = new Segueworks();
    x.silence(3);
    x.add(0, 2);
    Object program = heldBy(x, "program");
    for (int length : new int[] {4, 6, 5}) {
      try {
        Field held = program.getClass().getDeclaredField("length");
        held.setAccessible(true);
        held.setInt(program, length);
      } catch (ReflectiveOperationException e) {
        throw new IllegalStateException(e);
      }
      due.is("51 with a program of " + length, length == 5, () -> x.isTrue());
    }
  }

  /** Bends a piece alone, so that no other one is made of it. */
  private static void bentAlone(Due due) {
    Segueworks x = new Segueworks();
    x.silence(2);
    Object samples = heldBy(Array.get(heldBy(x, "pieces"), 0), "samples");
    bent(due, "first sample of the only piece", x, samples, 0);
    bent(due, "last sample of the only piece", x, samples, 1);
  }

  /** "no split is above 100": 100 together is true, 101 is not. */
  private static void bentSplit(Due due) {
    Segueworks x = new Segueworks();
    x.silence(1);
    x.add(0, 0);
    x.split(0, 0, 60);
    x.split(0, 7, 40);
    due.is("51 100 together", true, () -> x.isTrue());
    Object item = Array.get(heldBy(heldBy(x, "program"), "items"), 0);
    Array.setInt(heldBy(item, "hundredths"), 0, 61);
    due.is("51 101 together", false, () -> x.isTrue());
    Array.setInt(heldBy(item, "hundredths"), 0, 59);
    due.is("51 99 together", true, () -> x.isTrue());
  }

  /** "or has fewer than 8 samples that are read". */
  private static void fewRead(Due due) {
    for (int many = 0; many <= 9; many++) {
      Segueworks x = new Segueworks();
      x.silence(9);
      x.add(0, 0);
      x.edition(0);
      if (many < 9) x.damage(0, many, 9 - many);
      String want = many < 8 ? "throws.NoSuchElementException" : "0";
      due.is("36 itself by " + many, want, () -> x.match(0, 0));
      due.is("51 " + many + " read", true, () -> x.isTrue());
    }
  }

  private static void untruths(Due due) {
    Segueworks x = worked();
    Object pieces = heldBy(x, "pieces");
    for (int i = 0; i < 8; i++) {
      Object samples = heldBy(Array.get(pieces, i), "samples");
      bent(due, "first sample of piece " + i, x, samples, 0);
      bent(due, "last sample of piece " + i, x, samples, Array.getLength(samples) - 1);
    }
    for (int i = 5; i < 8; i += 2) {
      Object carries = heldBy(Array.get(pieces, i), "carries");
      bent(due, "first factor or z of piece " + i, x, carries, 0);
      bent(due, "last factor or z of piece " + i, x, carries, Array.getLength(carries) - 1);
    }
    Object program = heldBy(x, "program");
    Object row = heldBy(program, "row");
    bent(due, "gap of the program", x, row, 0);
    bent(due, "sample of the program", x, row, x.startOf(0));
    bent(due, "end of the program", x, row, x.programLength() - 1);
    Object item = Array.get(heldBy(program, "items"), 2);
    Array.setInt(heldBy(item, "hundredths"), 7, 101);
    due.is("51 with a bent split", false, () -> x.isTrue());
  }

  private static void throwing(Due due) {
    Segueworks x = worked();
    x.edition(0);
    x.engrave(0, 99999);
    long before = x.checksum();
    for (int n = -2; n < 30; n += 29) {
      int k = n;
      due.bounds("cut(0, 1, 60)", () -> x.cut(0, 1, 60));
      due.argument("silence(0)", () -> x.silence(0));
      due.bounds("splice", () -> x.splice(0, k, 0));
      due.bounds("gain", () -> x.gain(k, 0));
      due.bounds("back", () -> x.back(k));
      due.bounds("add", () -> x.add(k, 0));
      due.bounds("replace", () -> x.replace(0, k));
      due.argument("engrave", () -> x.engrave(0, k * 100000));
      due.unsupported("engrave no fit", () -> x.engrave(0, 1));
      due.bounds("father", () -> x.father(k));
      due.argument("edition", () -> x.edition(k * 31));
      due.bounds("repair", () -> x.repair(0, k));
      due.argument("damage", () -> x.damage(0, 0, k * 200));
    }
    due.is("nothing changed", before, () -> x.checksum());
    due.is("reelLength(0)", 60, () -> x.reelLength(0));
    due.is("isTrue()", true, () -> x.isTrue());
  }

  public static void main(String[] args) {
    Due due = new Due();
    sums(due);
    truths(due);
    untruths(due);
    bentLength(due);
    bentAlone(due);
    bentSplit(due);
    fewRead(due);
    throwing(due);
    due.end();
  }
}
