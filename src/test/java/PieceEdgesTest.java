/** The boundary cases of promises 6 to 18 and 41: pieces of all kinds, levels and padding. */
public final class PieceEdgesTest {
  private static final int LOW = Edges.LOW;
  private static final int HIGH = Edges.HIGH;

  /** "from 0", "1 or more"; "below 0 or above how many it has", "not as many behind that". */
  private static void cuts(Due due) {
    Edges e = new Edges(due);
    e.x.reel();
    e.argument("6 none of an empty reel", (x, n) -> x.cut(0, 0, n), 0, -1, LOW);
    e.bounds("6 one of an empty reel", (x, n) -> x.cut(0, 0, n), 1, HIGH);
    e.bounds("6 from, in an empty reel", (x, n) -> x.cut(0, n, 0), -1, 1, LOW, HIGH);
    for (int i = 0; i < 5; i++) e.x.sample(0, 10 + i);
    e.bounds("6 from", (x, n) -> x.cut(0, n, 1), -1, 5, 6, LOW, HIGH);
    e.bounds("6 from, with none", (x, n) -> x.cut(0, n, 0), -1, 6, LOW, HIGH);
    e.argument("6 none from 5", (x, n) -> x.cut(0, 5, n), 0, -1, LOW);
    e.bounds("6 many from 0", (x, n) -> x.cut(0, 0, n), 6, HIGH);
    e.bounds("6 many from 4", (x, n) -> x.cut(0, 4, n), 2, HIGH);
    e.argument("6 none from 4", (x, n) -> x.cut(0, 4, n), 0, -1, LOW);
    e.bounds("6 no reel", (x, n) -> x.cut(n, 0, 1), -1, 1, LOW, HIGH);
    e.bounds("6 no reel is told first", (x, n) -> x.cut(n, 0, 0), -1, 1);
    e.is("6 all", 0, x -> x.cut(0, 0, 5));
    e.is("6 the first one", 1, x -> x.cut(0, 0, 1));
    e.is("6 the last one", 2, x -> x.cut(0, 4, 1));
    e.samples("6 all", 0, 10, 11, 12, 13, 14);
    e.samples("6 the first one", 1, 10);
    e.samples("6 the last one", 2, 14);
  }

  /** "and do not change": a cut stays when its reel grows. */
  private static void cutsDoNotChange(Due due) {
    Edges e = new Edges(due);
    e.piece(1, 2);
    e.x.sample(0, 3);
    e.x.wave(0, 197, 1, 0);
    e.samples("6 the reel grew", 0, 1, 2);
  }

  /** "1 to 200". */
  private static void silences(Due due) {
    Edges e = new Edges(due);
    e.argument("7 many", (x, n) -> x.silence(n), 0, 201, -1, LOW, HIGH);
    e.is("7 of 1", 0, x -> x.silence(1));
    e.is("7 of 200", 1, x -> x.silence(200));
    e.samples("7 of 1", 0, 0);
    e.is("7 of 200, its length", 200, x -> x.lengthOf(1));
    e.is("7 of 200, its last sample", 0, x -> x.sampleOf(1, 199));
  }

  /** "a fade, which is not longer than either"; "if the fade is below 0, or longer than either". */
  private static void fades(Due due) {
    Edges e = new Edges(due);
    e.piece(100, 200, 300);
    e.piece(-50, 50);
    e.argument("8 the second one is shorter, fade", (x, n) -> x.splice(0, 1, n), 3, -1, LOW, HIGH);
    e.argument("8 the first one is shorter, fade", (x, n) -> x.splice(1, 0, n), 3, -1, LOW, HIGH);
    e.argument("8 with itself, fade", (x, n) -> x.splice(1, 1, n), 3, -1);
    e.is("8 no fade", 2, x -> x.splice(0, 1, 0));
    e.samples("8 no fade", 2, 100, 200, 300, -50, 50);
    e.is("8 all of the second one", 3, x -> x.splice(0, 1, 2));
    // (200 * 2 - 50) / 3, (300 + 50 * 2) / 3
    e.samples("8 all of the second one", 3, 100, 116, 133);
    e.is("8 all of the first one", 4, x -> x.splice(1, 0, 2));
    // (-50 * 2 + 100) / 3, (50 + 200 * 2) / 3
    e.samples("8 all of the first one", 4, 0, 150, 300);
    e.is("8 all of both", 5, x -> x.splice(1, 1, 2));
    // (-100 - 50) / 3, (50 + 100) / 3
    e.samples("8 all of both", 5, -50, 50);
    e.is("8 a fade of one", 6, x -> x.splice(0, 1, 1));
    e.samples("8 a fade of one", 6, 100, 200, 125, 50);
  }

  /** "divided by the fade and 1, cut towards 0". */
  private static void fadesCutTowardsZero(Due due) {
    Edges e = new Edges(due);
    e.piece(-1, 1);
    e.piece(0, 0);
    e.x.splice(0, 1, 2);
    // -2 and 1 by 3
    e.samples("8 thirds", 2, 0, 0);
    e.piece(-5, 5);
    e.x.splice(3, 1, 2);
    // -10 and 5 by 3
    e.samples("8 more thirds", 4, -3, 1);
    e.piece(-30000, -30000);
    e.x.gain(5, 400);
    e.x.splice(6, 6, 1);
    e.samples("8 the least", 7, -32768, -32768, -32768);
  }

  /** "if there is no such piece, for either", told ahead of the fade. */
  private static void splicesOfNoPiece(Due due) {
    Edges e = new Edges(due);
    e.piece(1, 2);
    e.bounds("8 no first piece", (x, n) -> x.splice(n, 0, 0), -1, 1, LOW, HIGH);
    e.bounds("8 no second piece", (x, n) -> x.splice(0, n, 0), -1, 1, LOW, HIGH);
    e.bounds("8 no second piece, fade", (x, n) -> x.splice(0, 1, n), -1, 3);
    e.is("8 both are there", 1, x -> x.splice(0, 0, 0));
  }

  /** "1 to 800 samples"; "if it would have more than 800 samples". */
  private static void longSplices(Due due) {
    Edges e = new Edges(due);
    int most = e.longSilence(800);
    int one = e.x.silence(1);
    int all = e.longSilence(799);
    e.unsupported("8 801", x -> x.splice(most, one, 0));
    e.unsupported("8 801 the other way", x -> x.splice(one, most, 0));
    e.unsupported("8 801 with a fade", x -> x.splice(most, most, 799));
    e.unsupported("8 1600", x -> x.splice(most, most, 0));
    e.argument("8 the fade is told ahead of 802", x -> x.splice(most, one, -1));
    e.argument("8 the longer fade is told", x -> x.splice(most, one, 2));
    int next = all + 1;
    e.is("8 799 and 1", next, x -> x.splice(all, one, 0));
    e.is("8 its length", 800, x -> x.lengthOf(next));
    e.is("8 800 all faded", next + 1, x -> x.splice(most, most, 800));
    e.is("8 its length then", 800, x -> x.lengthOf(next + 1));
    e.is("16 its last sample", 0, x -> x.sampleOf(next, 799));
    e.none("16 no sample", (x, n) -> x.sampleOf(next, n), 800, -1, LOW, HIGH);
  }

  /** "0 to 400", and "from -32768 to 32767, to which what is beyond is held". */
  private static void gains(Due due) {
    Edges e = new Edges(due);
    e.piece(8191, 8192, -8192, -8193, 1, -1, 30000, -30000);
    e.argument("9 hundredths", (x, n) -> x.gain(0, n), -1, 401, LOW, HIGH);
    e.bounds("9 no piece", (x, n) -> x.gain(n, 1), -1, 1, LOW, HIGH);
    e.bounds("9 no piece is told first", (x, n) -> x.gain(1, n), -1, 401);
    e.is("9 of 400", 1, x -> x.gain(0, 400));
    e.samples("9 of 400", 1, 32764, 32767, -32768, -32768, 4, -4, 32767, -32768);
    e.is("9 of 0", 2, x -> x.gain(0, 0));
    e.samples("9 of 0", 2, 0, 0, 0, 0, 0, 0, 0, 0);
    e.is("9 of 1", 3, x -> x.gain(0, 1));
    e.samples("9 of 1", 3, 81, 81, -81, -81, 0, 0, 300, -300);
    e.is("9 of 100", 4, x -> x.gain(1, 100));
    e.samples("9 of 100", 4, 32764, 32767, -32768, -32768, 4, -4, 32767, -32768);
    e.is("9 of 99", 5, x -> x.gain(1, 99));
    e.samples("9 of 99", 5, 32436, 32439, -32440, -32440, 3, -3, 32439, -32440);
  }

  private static void backs(Due due) {
    Edges e = new Edges(due);
    e.piece(7);
    e.bounds("10 no piece", (x, n) -> x.back(n), -1, 1, LOW, HIGH);
    e.is("10 of one sample", 1, x -> x.back(0));
    e.samples("10 of one sample", 1, 7);
    e.piece(1, 2, 3, 4);
    e.is("10 of four", 3, x -> x.back(2));
    e.samples("10 of four", 3, 4, 3, 2, 1);
  }

  /** "1000 to 32767", "0 to 20", "1 to 1000". */
  private static void limiterNumbers(Due due) {
    Edges e = new Edges(due);
    e.piece(30000, 0);
    e.argument("11 ceiling", (x, n) -> x.limit(0, n, 0, 1), 999, 32768, 0, -1, LOW, HIGH);
    e.argument("11 ahead", (x, n) -> x.limit(0, 1000, n, 1), -1, 21, LOW, HIGH);
    e.argument("11 release", (x, n) -> x.limit(0, 1000, 0, n), 0, 1001, -1, LOW, HIGH);
    e.bounds("11 no piece", (x, n) -> x.limit(n, 1000, 0, 1), -1, 1, LOW, HIGH);
    e.bounds("11 no piece is told first", (x, n) -> x.limit(1, n, n, n), -1);
    e.is("11 all the least", 1, x -> x.limit(0, 1000, 0, 1));
    e.samples("11 all the least", 1, 990, 0);
    e.is("11 all the most", 2, x -> x.limit(0, 32767, 20, 1000));
    e.samples("11 all the most", 2, 30000, 0);
  }

  /** "1000 times the ceiling divided by the amount, cut, which is 1000 at most, 1000 for 0". */
  private static void limiterCeilings(Due due) {
    Edges e = new Edges(due);
    int[] rows = {0, 1, 999, 1000, 1001, -1000, -1001, 2000, -30000};
    // factors 1000 1000 1000 1000 999 1000 999 500 33
    int[] want = {0, 1, 999, 1000, 999, -1000, -999, 1000, -990};
    e.piece(rows);
    for (int i = 0; i < rows.length; i++) {
      int k = i;
      e.is("11 the sample alone", 1 + 2 * k, x -> x.cut(0, k, 1));
      e.is("11 limited alone", 2 + 2 * k, x -> x.limit(1 + 2 * k, 1000, 0, 1000));
      e.samples("11 of " + rows[k], 2 + 2 * k, want[k]);
    }
    Edges low = new Edges(due);
    low.piece(-30000);
    low.x.gain(0, 400);
    low.x.limit(1, 32767, 0, 1);
    // 32767000 / 32768 is 999
    low.samples("11 of -32768 by 32767", 2, -32735);
  }

  /** "over that sample and those that it looks ahead, as far as there are some". */
  private static void limiterLooksAhead(Due due) {
    Edges e = new Edges(due);
    int[] row = new int[22];
    java.util.Arrays.fill(row, 1000);
    row[21] = 2000;
    e.piece(row);
    e.x.limit(0, 1000, 20, 1000);
    e.is("11 21 ahead is not seen", 1000, x -> x.sampleOf(1, 0));
    e.is("11 20 ahead is seen", 500, x -> x.sampleOf(1, 1));
    e.is("11 the last one", 1000, x -> x.sampleOf(1, 21));
    e.x.limit(0, 1000, 0, 1000);
    e.is("11 none ahead", 1000, x -> x.sampleOf(2, 20));
    e.x.limit(0, 1000, 1, 1000);
    e.is("11 one ahead", 500, x -> x.sampleOf(3, 20));
    e.is("11 two ahead", 1000, x -> x.sampleOf(3, 19));
  }

  /** "at most the factor of the sample ahead, and the release more". */
  private static void limiterReleases(Due due) {
    Edges e = new Edges(due);
    // wanted 500, then 600, 1000 and 1000
    e.piece(2000, 1666, 1000, 1000);
    int[][] want = {
      {1000, 834, 502, 503}, {1000, 997, 698, 797}, {1000, 999, 700, 800}, {1000, 999, 701, 802},
      {1000, 999, 1000, 1000},
    };
    int[] releases = {1, 99, 100, 101, 1000};
    for (int i = 0; i < releases.length; i++) {
      int k = i;
      e.is("11 release", 1 + k, x -> x.limit(0, 1000, 0, releases[k]));
      e.samples("11 release " + releases[k], 1 + k, want[k]);
    }
  }

  /** "1 to 4", for both, and a piece of one sample. */
  private static void rates(Due due) {
    Edges e = new Edges(due);
    e.piece(5);
    e.argument("12 up", (x, n) -> x.resample(0, n, 1), 0, 5, -1, LOW, HIGH);
    e.argument("12 down", (x, n) -> x.resample(0, 1, n), 0, 5, -1, LOW, HIGH);
    e.bounds("12 no piece", (x, n) -> x.resample(n, 1, 1), -1, 1, LOW, HIGH);
    e.bounds("12 no piece is told first", (x, n) -> x.resample(1, n, n), 0, 5);
    e.is("12 4 by 1", 1, x -> x.resample(0, 4, 1));
    e.is("12 1 by 4", 2, x -> x.resample(0, 1, 4));
    e.is("12 1 by 1", 3, x -> x.resample(0, 1, 1));
    for (int piece = 1; piece <= 3; piece++) e.samples("12 of one sample", piece, 5);
    e.piece(0, 4, -4, 8, 80);
    e.is("12 4 of 1 by 4", 5, x -> x.resample(4, 1, 4));
    e.samples("12 4 of 1 by 4", 5, 0, 80);
    e.x.cut(1, 0, 4);
    e.is("12 3 of 1 by 4", 7, x -> x.resample(6, 1, 4));
    e.samples("12 3 of 1 by 4", 7, 0);
    e.is("12 4 by 1 of four", 8, x -> x.resample(6, 4, 1));
    e.samples("12 4 by 1 of four", 8, 0, 1, 2, 3, 4, 2, 0, -2, -4, -1, 2, 5, 8);
    e.is("12 4 by 3 of four", 9, x -> x.resample(6, 4, 3));
    // at 0, 3/4, 6/4, 9/4 and 12/4
    e.samples("12 4 by 3 of four", 9, 0, 3, 0, -1, 8);
  }

  /** "divided by up, cut towards 0". */
  private static void ratesCutTowardsZero(Due due) {
    Edges e = new Edges(due);
    e.piece(0, -1, 0, 1);
    e.x.resample(0, 2, 1);
    e.samples("12 halves", 1, 0, 0, -1, 0, 0, 0, 1);
    e.x.resample(0, 3, 1);
    e.samples("12 thirds", 2, 0, 0, 0, -1, 0, 0, 0, 0, 0, 1);
  }

  /** "if it would have more than 800 samples". */
  private static void longResamples(Due due) {
    Edges e = new Edges(due);
    int[] lengths = {200, 201, 534, 535, 601};
    int[] pieces = new int[5];
    for (int i = 0; i < 5; i++) pieces[i] = e.longSilence(lengths[i]);
    e.unsupported("12 201 by 4 and 1", x -> x.resample(pieces[1], 4, 1));
    e.unsupported("12 535 by 3 and 2", x -> x.resample(pieces[3], 3, 2));
    e.unsupported("12 601 by 4 and 3", x -> x.resample(pieces[4], 4, 3));
    e.argument("12 a number is told ahead of that", (x, n) -> x.resample(pieces[4], n, 1), 5);
    e.argument("12 a number is told too", (x, n) -> x.resample(pieces[4], 4, n), 0);
    int next = pieces[4] + 1;
    e.is("12 534 by 3 and 2", next, x -> x.resample(pieces[2], 3, 2));
    e.is("12 its length", 800, x -> x.lengthOf(next));
    e.is("12 200 by 4 and 1", next + 1, x -> x.resample(pieces[0], 4, 1));
    e.is("12 its length too", 797, x -> x.lengthOf(next + 1));
    e.is("12 800 by 4 and 4", next + 2, x -> x.resample(next, 4, 4));
    e.is("12 its length still", 800, x -> x.lengthOf(next + 2));
    e.is("12 800 by 1 and 4", next + 3, x -> x.resample(next, 1, 4));
    e.is("12 its length then", 200, x -> x.lengthOf(next + 3));
  }

  /** "1 to 2147483646". */
  private static void seeds(Due due) {
    Edges e = new Edges(due);
    e.piece(0);
    e.argument("13 seed", (x, n) -> x.dither(0, n), 0, HIGH, -1, LOW);
    e.bounds("13 no piece", (x, n) -> x.dither(n, 1), -1, 1, LOW, HIGH);
    e.bounds("13 no piece is told first", (x, n) -> x.dither(1, n), 0, HIGH);
    e.is("13 the least", 1, x -> x.dither(0, 1));
    e.is("13 the most", 2, x -> x.dither(0, 2147483646));
    e.samples("13 the least", 1, 0);
    e.samples("13 the most", 2, 0);
  }

  /** "divided by 256, rounded down, times 256", and what is beyond is held. */
  private static void dithers(Due due) {
    // By a seed of 1 the first z is 48271, and 143 modulo 256.
    int[] rows = {112, 113, -143, -144, -399, -400};
    int[] want = {0, 256, 0, -256, -256, -512};
    for (int i = 0; i < rows.length; i++) {
      Edges e = new Edges(due);
      e.piece(rows[i]);
      e.x.dither(0, 1);
      e.samples("13 of " + rows[i], 1, want[i]);
    }
    // The next ones are 226 and 70: z goes on from sample to sample.
    Edges next = new Edges(due);
    next.piece(112, 29, 185);
    next.piece(113, 30, 186);
    next.x.dither(0, 1);
    next.x.dither(1, 1);
    next.samples("13 each just below", 2, 0, 0, 0);
    next.samples("13 each just above", 3, 256, 256, 256);
    Edges high = new Edges(due);
    high.piece(16312);
    high.piece(13050);
    high.piece(-30000);
    high.x.gain(0, 200);
    high.x.gain(1, 250);
    high.x.gain(2, 400);
    for (int piece = 3; piece < 6; piece++) high.x.dither(piece, 1);
    // 32624 and 143 are 32767, one more is 32768; -32768 and 143 go down to -32768
    high.samples("13 of 32624", 6, 32512);
    high.samples("13 of 32625, held", 7, 32767);
    high.samples("13 of -32768", 8, -32768);
  }

  /** "At most 24 are numbered from 0"; "if there are 24 pieces". */
  private static void twentyFourPieces(Due due) {
    Edges.Call[] kinds = {
      x -> x.cut(0, 0, 1), x -> x.silence(1), x -> x.splice(0, 0, 1), x -> x.gain(0, 100),
      x -> x.back(0), x -> x.limit(0, 1000, 0, 1), x -> x.resample(0, 1, 1), x -> x.dither(0, 1),
    };
    String letters = "csxgblrd";
    for (int i = 0; i < kinds.length; i++) {
      Edges e = new Edges(due);
      char letter = letters.charAt(i);
      e.piece(1);
      for (int k = 1; k < 23; k++) e.x.silence(1);
      e.is("the piece 23 of " + letter, 23, kinds[i]);
      e.state("the piece 24 of " + letter, kinds[i]);
      e.is("14 the piece 23", letter, x -> x.kindOf(23));
      e.is("15 the piece 23", 1, x -> x.lengthOf(23));
      e.bounds("14 the piece 24", x -> x.kindOf(24));
      e.bounds("15 the piece 24", x -> x.lengthOf(24));
    }
  }

  /** "If several exceptions apply, the exception listed first is thrown", with 24 pieces. */
  private static void whenFull(Due due) {
    Edges e = new Edges(due);
    e.piece(1, 2);
    int most = e.longSilence(800);
    e.fillPieces();
    e.bounds("6 full, from", (x, n) -> x.cut(0, n, 0), -1, 3);
    e.bounds("6 full, many", (x, n) -> x.cut(0, 0, n), 3);
    e.argument("6 full, none", (x, n) -> x.cut(0, 0, n), 0, -1);
    e.argument("7 full, many", (x, n) -> x.silence(n), 0, 201);
    e.bounds("8 full, no piece", (x, n) -> x.splice(n, 0, 0), -1, 24);
    e.bounds("8 full, no second piece", (x, n) -> x.splice(0, n, 0), -1, 24);
    e.argument("8 full, fade", (x, n) -> x.splice(0, most, n), -1, 3);
    e.unsupported("8 full, 801", x -> x.splice(most, 0, 1));
    e.state("8 full, 800", x -> x.splice(most, 0, 2));
    e.bounds("9 full, no piece", (x, n) -> x.gain(n, 401), -1, 24);
    e.argument("9 full, hundredths", (x, n) -> x.gain(0, n), -1, 401);
    e.bounds("10 full, no piece", (x, n) -> x.back(n), -1, 24);
    e.bounds("11 full, no piece", (x, n) -> x.limit(n, 999, 21, 0), -1, 24);
    e.argument("11 full, ceiling", (x, n) -> x.limit(0, n, 0, 1), 999, 32768);
    e.argument("11 full, ahead", (x, n) -> x.limit(0, 1000, n, 1), -1, 21);
    e.argument("11 full, release", (x, n) -> x.limit(0, 1000, 0, n), 0, 1001);
    e.bounds("12 full, no piece", (x, n) -> x.resample(n, 0, 5), -1, 24);
    e.argument("12 full, up", (x, n) -> x.resample(most, n, 1), 0, 5);
    e.argument("12 full, down", (x, n) -> x.resample(most, 4, n), 0, 5);
    e.unsupported("12 full, too long", x -> x.resample(most, 4, 3));
    e.bounds("13 full, no piece", (x, n) -> x.dither(n, 0), -1, 24);
    e.argument("13 full, seed", (x, n) -> x.dither(0, n), 0, HIGH);
  }

  /** "if there is no such piece", "if there is no such sample". */
  private static void asks(Due due) {
    Edges e = new Edges(due);
    e.piece(-7);
    e.piece(8, 9);
    e.bounds("14 no piece", (x, n) -> x.kindOf(n), -1, 2, LOW, HIGH);
    e.bounds("15 no piece", (x, n) -> x.lengthOf(n), -1, 2, LOW, HIGH);
    e.bounds("16 no piece", (x, n) -> x.sampleOf(n, 0), -1, 2, LOW, HIGH);
    e.bounds("16 no piece is told first", (x, n) -> x.sampleOf(2, n), -1, 2);
    e.bounds("17 no piece", (x, n) -> x.loudness(n), -1, 2, LOW, HIGH);
    e.bounds("18 no piece", (x, n) -> x.peak(n), -1, 2, LOW, HIGH);
    e.none("16 of one sample", (x, n) -> x.sampleOf(0, n), -1, 1, LOW, HIGH);
    e.none("16 of two", (x, n) -> x.sampleOf(1, n), -1, 2, LOW, HIGH);
    e.is("16 the first", 8, x -> x.sampleOf(1, 0));
    e.is("16 the last", 9, x -> x.sampleOf(1, 1));
    e.is("16 the only one", -7, x -> x.sampleOf(0, 0));
    e.is("14 the first", 'c', x -> x.kindOf(0));
    e.is("15 the first", 1, x -> x.lengthOf(0));
  }

  private static void loud(Due due, String what, int want, int... row) {
    Edges e = new Edges(due);
    e.piece(row);
    e.is("17 " + what, want, x -> x.loudness(0));
  }

  /** "10000 or more, 0 without one"; "the last one perhaps shorter"; all three are cut. */
  private static void loudness(Due due) {
    loud(due, "one sample of 100", 100, 100);
    loud(due, "one sample of -100", 100, -100);
    loud(due, "one sample of 99", 0, 99);
    loud(due, "silence", 0, 0);
    // 282 282 + 21 21 + 5 5 + 3 3 + 1 1 = 80000
    loud(due, "a power of 10000", 100, 282, 21, 5, 3, 1, 0, 0, 0);
    loud(due, "a power of 9999 and 7 of 8", 0, 282, 21, 5, 3, 0, 0, 0, 0);
    loud(due, "a power of 10000 and 7 of 8, cut", 100, 282, 21, 5, 4, 1, 0, 0, 0);
    loud(due, "a window of 8", 100, 282, 21, 5, 3, 0, 0, 0, 1);
    loud(due, "a window of 7", 106, 282, 21, 5, 3, 0, 0, 0);
    loud(due, "a last window of 1", 200, 0, 0, 0, 0, 0, 0, 0, 0, 200);
    loud(due, "a last window of 1, too quiet", 0, 0, 0, 0, 0, 0, 0, 0, 0, 99);
    // powers 10000 and 10402, by 31206 and 3; with 10401 and a rest, by 31205, the mean is 10200
    loud(due, "a mean of 10201", 101, 100, 100, 100, 100, 100, 100, 100, 100, 173, 34, 11);
    loud(due, "a mean cut to 10200", 100, 100, 100, 100, 100, 100, 100, 100, 100, 176, 15, 2);
    Edges e = new Edges(due);
    e.piece(-30000, -30000);
    e.x.gain(0, 400);
    e.is("17 the loudest", 32768, x -> x.loudness(1));
  }

  private static void peak(Due due, String what, int want, int... row) {
    Edges e = new Edges(due);
    e.piece(row);
    e.is("18 " + what, want, x -> x.peak(0));
  }

  /** "any point between two samples that have two on each side, themselves counted". */
  private static void peaks(Due due) {
    peak(due, "one sample", 1000, -1000);
    peak(due, "two", 1000, 1000, 1000);
    peak(due, "three, none ahead", 1000, 1000, 1000, 0);
    peak(due, "three, none behind", 1000, 0, 1000, 1000);
    peak(due, "four, the one point", 1125, 0, 1000, 1000, 0);
    peak(due, "five, the first point", 1125, 0, 1000, 1000, 0, 0);
    peak(due, "five, the last point", 1125, 0, 0, -1000, -1000, 0);
    peak(due, "not at the begin", 1000, 1000, 1000, 0, 0);
    peak(due, "not at the end", 1000, 0, 0, 1000, 1000);
    // 9 * 16 - 1 and -2, less those beside, by 16
    peak(due, "cut below", 8, 1, 8, 8, 1);
    peak(due, "cut to the next", 9, 0, 8, 8, 0);
    peak(due, "cut towards 0 below 0", 8, -1, -8, -8, -1);
    peak(due, "silence", 0, 0, 0, 0, 0);
    Edges e = new Edges(due);
    e.piece(30000, -30000, -30000, 30000);
    e.x.gain(0, 400);
    // (9 * -65536 - 65534) / 16 is -40959.875, and is not held
    e.is("18 the greatest", 40959, x -> x.peak(1));
    e.x.cut(0, 1, 1);
    e.x.gain(2, 400);
    e.is("18 of -32768 alone", 32768, x -> x.peak(3));
  }

  /** "0 to 50", "1 to 100", "as many behind it as bring both to whole frames". */
  private static void paddings(Due due) {
    Edges e = new Edges(due);
    int[] row = new int[50];
    e.piece(row);
    e.argument("41 delay", (x, n) -> x.padding(0, n, 1), -1, 51, LOW, HIGH);
    e.argument("41 frame", (x, n) -> x.padding(0, 0, n), 0, 101, -1, LOW, HIGH);
    e.bounds("41 no piece", (x, n) -> x.padding(n, 0, 1), -1, 1, LOW, HIGH);
    e.bounds("41 no piece is told first", (x, n) -> x.padding(1, n, 0), -1, 51);
    e.is("41 none", 0, x -> x.padding(0, 0, 1));
    e.is("41 a delay alone", 50, x -> x.padding(0, 50, 1));
    e.is("41 a frame of 100, full", 50, x -> x.padding(0, 50, 100));
    e.is("41 a frame of 100, one short", 50, x -> x.padding(0, 49, 100));
    e.is("41 a frame of 100, no delay", 50, x -> x.padding(0, 0, 100));
    e.is("41 a frame of 99, one beyond", 50 + 98, x -> x.padding(0, 50, 99));
    e.is("41 a frame of 50, full", 0, x -> x.padding(0, 0, 50));
    e.is("41 a frame of 50, one beyond", 50, x -> x.padding(0, 1, 50));
    e.is("41 a frame of 51", 1, x -> x.padding(0, 0, 51));
    e.is("41 a frame of 49", 48, x -> x.padding(0, 0, 49));
  }

  public static void main(String[] args) {
    Due due = new Due();
    cuts(due);
    cutsDoNotChange(due);
    silences(due);
    fades(due);
    fadesCutTowardsZero(due);
    splicesOfNoPiece(due);
    longSplices(due);
    gains(due);
    backs(due);
    limiterNumbers(due);
    limiterCeilings(due);
    limiterLooksAhead(due);
    limiterReleases(due);
    rates(due);
    ratesCutTowardsZero(due);
    longResamples(due);
    seeds(due);
    dithers(due);
    twentyFourPieces(due);
    whenFull(due);
    asks(due);
    loudness(due);
    peaks(due);
    paddings(due);
    due.end();
  }
}
