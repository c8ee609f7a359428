/** The boundary cases of promises 1 to 5: a new object, reels, samples and waves. */
public final class ReelEdgesTest {
  private static final int LOW = Edges.LOW;
  private static final int HIGH = Edges.HIGH;

  /** "Creates works without reels, pieces and items." */
  private static void withoutReelsAndPieces(Due due) {
    Edges e = new Edges(due);
    e.bounds("1 sample", x -> x.sample(0, 0));
    e.bounds("1 wave", x -> x.wave(0, 1, 1, 0));
    e.bounds("1 reelLength", x -> x.reelLength(0));
    e.bounds("1 cut", x -> x.cut(0, 0, 1));
    e.bounds("1 splice", x -> x.splice(0, 0, 0));
    e.bounds("1 gain", x -> x.gain(0, 100));
    e.bounds("1 back", x -> x.back(0));
    e.bounds("1 limit", x -> x.limit(0, 1000, 0, 1));
    e.bounds("1 resample", x -> x.resample(0, 1, 1));
    e.bounds("1 dither", x -> x.dither(0, 1));
    e.bounds("1 kindOf", x -> x.kindOf(0));
    e.bounds("1 lengthOf", x -> x.lengthOf(0));
    e.bounds("1 sampleOf", x -> x.sampleOf(0, 0));
    e.bounds("1 loudness", x -> x.loudness(0));
    e.bounds("1 peak", x -> x.peak(0));
    e.bounds("1 padding", x -> x.padding(0, 0, 1));
    e.is("1 the first reel", 0, x -> x.reel());
    e.is("1 the first piece", 0, x -> x.silence(1));
  }

  private static void withoutItemsAndAllBehindThem(Due due) {
    Edges e = new Edges(due);
    e.bounds("1 add", x -> x.add(0, 0));
    e.bounds("1 lock", x -> x.lock(0, true));
    e.bounds("1 replace", x -> x.replace(0, 0));
    e.bounds("1 startOf", x -> x.startOf(0));
    e.is("1 programLength", 0, x -> x.programLength());
    e.none("1 heard", x -> x.heard(0));
    e.is("1 sides", 0, x -> x.sides(1));
    e.bounds("1 sideOf", x -> x.sideOf(0, 1));
    e.none("1 engrave", x -> x.engrave(0, 1));
    e.bounds("1 failedAt", x -> x.failedAt(0));
    e.bounds("1 father", x -> x.father(0));
    e.bounds("1 mother", x -> x.mother(0));
    e.bounds("1 stamper", x -> x.stamper(0));
    e.bounds("1 press", x -> x.press(0, 1));
    e.none("1 shuffled", x -> x.shuffled(1, 0));
    e.bounds("1 split", x -> x.split(0, 0, 0));
    e.bounds("1 play", x -> x.play(0, 1));
    e.is("1 earned", 0L, x -> x.earned(0, 1));
    e.arithmetic("1 goodShare", x -> x.goodShare());
    e.is("1 checksum", 7L, x -> x.checksum());
    e.is("1 isTrue", true, x -> x.isTrue());
  }

  private static void withoutEditions(Due due) {
    Edges e = new Edges(due);
    e.unsupported("1 edition", x -> x.edition(0));
    e.bounds("1 editionAt", x -> x.editionAt(0, 0));
    e.bounds("1 sum", x -> x.sum(0, 0));
    e.bounds("1 match", x -> x.match(0, 0));
    e.bounds("1 difference", x -> x.difference(0, 0));
    e.bounds("1 differsAt", x -> x.differsAt(0, 0));
    e.bounds("1 damage", x -> x.damage(0, 0, 1));
    e.bounds("1 repair", x -> x.repair(0, 0));
    e.bounds("1 vote", x -> x.vote(0, 0, 0));
    e.none("1 favourite", x -> x.favourite());
    e.bounds("1 meanMark", x -> x.meanMark(0));
  }

  /** "At most 6 are numbered from 0"; "if there are 6". */
  private static void sixReels(Due due) {
    Edges e = new Edges(due);
    e.count("2 reel", 0, 5, x -> x.reel());
    e.state("2 the seventh reel", x -> x.reel());
    e.is("2 the sixth reel is there", 1, x -> x.sample(5, 1));
    e.bounds("2 the seventh reel is not", x -> x.sample(6, 1));
    e.state("2 the seventh reel again", x -> x.reel());
  }

  /** "each of up to 200 samples"; "if it has 200". */
  private static void twoHundredSamples(Due due) {
    Edges e = new Edges(due);
    e.x.reel();
    e.x.reel();
    e.is("5 an empty reel", 0, x -> x.reelLength(0));
    e.count("3 sample", 1, 200, x -> x.sample(0, 1));
    e.state("3 the sample 201", x -> x.sample(0, 1));
    e.is("5 a full reel", 200, x -> x.reelLength(0));
    e.is("5 the empty one beside it", 0, x -> x.reelLength(1));
    e.is("3 the reel beside it", 1, x -> x.sample(1, 1));
    e.is("6 all of it", 0, x -> x.cut(0, 0, 200));
    e.is("6 its last sample", 1, x -> x.sampleOf(0, 199));
  }

  /** "-30000 to 30000"; "if a number is out of range"; "if there is no such reel". */
  private static void samples(Due due) {
    Edges e = new Edges(due);
    e.x.reel();
    e.x.reel();
    e.argument("3 sample", (x, n) -> x.sample(1, n), -30001, 30001, LOW, HIGH);
    e.is("3 the least", 1, x -> x.sample(1, -30000));
    e.is("3 the most", 2, x -> x.sample(1, 30000));
    e.bounds("3 no reel", (x, n) -> x.sample(n, 0), -1, 2, 5, 6, LOW, HIGH);
    e.bounds("3 no reel is told first", (x, n) -> x.sample(n, 30001), -1, 2);
    e.x.cut(1, 0, 2);
    e.samples("3", 0, -30000, 30000);
    e.x.wave(1, 198, 1, 0);
    e.argument("3 a number is told ahead of a full reel", (x, n) -> x.sample(1, n), -30001, 30001);
  }

  /** "1 to 200", "1 to 50", "0 to 30000"; "if it would have more than 200". */
  private static void waves(Due due) {
    Edges e = new Edges(due);
    e.x.reel();
    e.argument("4 many", (x, n) -> x.wave(0, n, 1, 0), 0, 201, -1, LOW, HIGH);
    e.argument("4 period", (x, n) -> x.wave(0, 1, n, 0), 0, 51, -1, LOW, HIGH);
    e.argument("4 level", (x, n) -> x.wave(0, 1, 1, n), -1, 30001, LOW, HIGH);
    e.bounds("4 no reel", (x, n) -> x.wave(n, 1, 1, 0), -1, 1, LOW, HIGH);
    e.bounds("4 no reel is told first", (x, n) -> x.wave(1, n, n, -1), 0);
    e.is("4 all the least", 1, x -> x.wave(0, 1, 1, 0));
    e.state("4 200 more", x -> x.wave(0, 200, 1, 0));
    e.argument("4 a number is told ahead of too many", (x, n) -> x.wave(0, 200, n, 0), 0, 51);
    e.is("4 199 more", 200, x -> x.wave(0, 199, 50, 30000));
    e.state("4 1 more", x -> x.wave(0, 1, 1, 0));
    e.argument("4 a number is told ahead of a full reel", (x, n) -> x.wave(0, n, 1, 0), 0, 201);
    e.x.reel();
    e.is("4 200 at once", 200, x -> x.wave(1, 200, 50, 30000));
  }

  /** "twice the rest of k by the period, and 1, less the period", "cut towards 0". */
  private static void waveSamples(Due due) {
    Edges e = new Edges(due);
    e.x.reel();
    e.x.wave(0, 51, 50, 30000);
    e.x.wave(0, 2, 1, 30000);
    e.x.wave(0, 3, 2, 1);
    e.x.wave(0, 3, 2, 2);
    e.x.cut(0, 0, 59);
    int[] places = {0, 24, 25, 49, 50, 51, 52, 53, 54, 55, 56, 57, 58};
    int[] want = {-29400, -600, 600, 29400, -29400, 0, 0, 0, 0, 0, -1, 1, -1};
    for (int i = 0; i < want.length; i++) {
      int k = i;
      e.is("4 sample " + places[k], want[k], x -> x.sampleOf(0, places[k]));
    }
  }

  /** "if there is no such reel". */
  private static void lengths(Due due) {
    Edges e = new Edges(due);
    for (int i = 0; i < 6; i++) e.x.reel();
    e.is("5 the first", 0, x -> x.reelLength(0));
    e.is("5 the last", 0, x -> x.reelLength(5));
    e.bounds("5 no reel", (x, n) -> x.reelLength(n), -1, 6, LOW, HIGH);
  }

  public static void main(String[] args) {
    Due due = new Due();
    withoutReelsAndPieces(due);
    withoutItemsAndAllBehindThem(due);
    withoutEditions(due);
    sixReels(due);
    twoHundredSamples(due);
    samples(due);
    waves(due);
    waveSamples(due);
    lengths(due);
    due.end();
  }
}
