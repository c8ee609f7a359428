/** Promises 6 to 18 and 41: the pieces, their levels and their padding. */
public final class PiecesTest {
  private static Segueworks with(int... samples) {
    Segueworks x = new Segueworks();
    x.reel();
    for (int value : samples) x.sample(0, value);
    return x;
  }

  /** An object whose piece 0 has these samples. */
  private static Segueworks piece(int... samples) {
    Segueworks x = with(samples);
    x.cut(0, 0, samples.length);
    return x;
  }

  private static void fill(Segueworks x) {
    for (int i = 0; i < 30; i++) Due.answerOf(() -> x.silence(1));
  }

  private static void samplesAre(Due due, String what, Segueworks x, int piece, int... want) {
    due.is(what + " lengthOf", want.length, () -> x.lengthOf(piece));
    for (int i = 0; i < want.length; i++) {
      int k = i;
      due.is(what + " sample " + k, want[k], () -> x.sampleOf(piece, k));
    }
  }

  private static void cuts(Due due) {
    Segueworks x = with(5, -6, 7);
    due.is("6 cut(0, 1, 2)", 0, () -> x.cut(0, 1, 2));
    samplesAre(due, "6", x, 0, -6, 7);
    due.is("6 cut(0, 2, 1)", 1, () -> x.cut(0, 2, 1));
    due.bounds("6 no reel", () -> x.cut(1, 0, 0));
    due.bounds("6 from -1", () -> x.cut(0, -1, 0));
    due.bounds("6 from 4", () -> x.cut(0, 4, 0));
    due.bounds("6 from 3, 1", () -> x.cut(0, 3, 1));
    due.bounds("6 from 0, 4", () -> x.cut(0, 0, 4));
    due.bounds("6 from 1, MAX", () -> x.cut(0, 1, Integer.MAX_VALUE));
    due.argument("6 from 3, 0", () -> x.cut(0, 3, 0));
    due.argument("6 from 0, MIN", () -> x.cut(0, 0, Integer.MIN_VALUE));
    x.sample(0, 9);
    samplesAre(due, "6 does not change", x, 0, -6, 7);
    fill(x);
    due.state("6 of 25", () -> x.cut(0, 0, 1));
    due.argument("6 of 25, none", () -> x.cut(0, 0, 0));
  }

  private static void silences(Due due) {
    Segueworks x = new Segueworks();
    due.argument("7 silence(0)", () -> x.silence(0));
    due.argument("7 silence(201)", () -> x.silence(201));
    due.is("7 silence(200)", 0, () -> x.silence(200));
    due.is("7 lengthOf(0)", 200, () -> x.lengthOf(0));
    due.is("7 sampleOf(0, 199)", 0, () -> x.sampleOf(0, 199));
    for (int i = 1; i < 24; i++) x.silence(1);
    due.state("7 silence(1) of 25", () -> x.silence(1));
    due.argument("7 silence(0) of 25", () -> x.silence(0));
  }

  private static void splices(Due due) {
    Segueworks x = with(100, 200, 300, -10, 20);
    x.cut(0, 0, 3);
    x.cut(0, 3, 2);
    due.is("8 splice(0, 1, 0)", 2, () -> x.splice(0, 1, 0));
    samplesAre(due, "8 fade 0", x, 2, 100, 200, 300, -10, 20);
    due.is("8 splice(0, 1, 1)", 3, () -> x.splice(0, 1, 1));
    samplesAre(due, "8 fade 1", x, 3, 100, 200, 145, 20);
    due.is("8 splice(0, 1, 2)", 4, () -> x.splice(0, 1, 2));
    // (200 * 2 - 10) / 3, (300 + 20 * 2) / 3
    samplesAre(due, "8 fade 2", x, 4, 100, 130, 113);
    due.is("8 splice(1, 1, 2)", 5, () -> x.splice(1, 1, 2));
    // (-20 - 10) / 3, (20 + 40) / 3
    samplesAre(due, "8 with itself", x, 5, -10, 20);
    due.argument("8 fade 3", () -> x.splice(0, 1, 3));
    due.argument("8 fade 3 the other way", () -> x.splice(1, 0, 3));
    due.argument("8 fade -1", () -> x.splice(0, 1, -1));
    due.bounds("8 no second piece", () -> x.splice(0, 6, -1));
    due.bounds("8 no first piece", () -> x.splice(-1, 0, 0));
  }

  private static void longSplices(Due due) {
    Segueworks x = new Segueworks();
    x.silence(200);
    x.splice(0, 0, 0);
    due.is("8 of 800", 2, () -> x.splice(1, 1, 0));
    due.is("8 lengthOf", 800, () -> x.lengthOf(2));
    x.silence(1);
    due.unsupported("8 of 801", () -> x.splice(2, 3, 0));
    due.is("8 of 800 with a fade", 4, () -> x.splice(2, 3, 1));
    fill(x);
    due.state("8 of 25", () -> x.splice(0, 0, 0));
    due.unsupported("8 of 25, of 801", () -> x.splice(2, 3, 0));
    due.argument("8 of 25, fade 2", () -> x.splice(2, 3, 2));
  }

  private static void gains(Due due) {
    Segueworks x = piece(1, -1, 99, -30000, 30000, 0);
    due.is("9 gain(0, 50)", 1, () -> x.gain(0, 50));
    samplesAre(due, "9 cut towards 0", x, 1, 0, 0, 49, -15000, 15000, 0);
    due.is("9 gain(0, 400)", 2, () -> x.gain(0, 400));
    samplesAre(due, "9 held", x, 2, 4, -4, 396, -32768, 32767, 0);
    due.is("9 gain(0, 0)", 3, () -> x.gain(0, 0));
    samplesAre(due, "9 none", x, 3, 0, 0, 0, 0, 0, 0);
    due.argument("9 gain(0, 401)", () -> x.gain(0, 401));
    due.argument("9 gain(0, -1)", () -> x.gain(0, -1));
    due.bounds("9 gain(4, -1)", () -> x.gain(4, -1));
    fill(x);
    due.state("9 of 25", () -> x.gain(0, 1));
    due.argument("9 of 25, 401", () -> x.gain(0, 401));
  }

  private static void backs(Due due) {
    Segueworks x = piece(1, 2, 3);
    due.is("10 back(0)", 1, () -> x.back(0));
    samplesAre(due, "10", x, 1, 3, 2, 1);
    due.bounds("10 back(2)", () -> x.back(2));
    fill(x);
    due.state("10 of 25", () -> x.back(0));
    due.bounds("10 of 25, back(24)", () -> x.back(24));
  }

  private static void limits(Due due) {
    Segueworks x = piece(0, 1000, 4000, 500, 0, 100, 3000);
    due.is("11 limit(0, 1000, 0, 200)", 1, () -> x.limit(0, 1000, 0, 200));
    // factors 1000 1000 250 450 650 850 333
    samplesAre(due, "11 no ahead", x, 1, 0, 1000, 1000, 225, 0, 85, 999);
    due.is("11 limit(0, 1000, 1, 1)", 2, () -> x.limit(0, 1000, 1, 1));
    // factors 1000 250 250 251 252 253 254
    samplesAre(due, "11 one ahead", x, 2, 0, 250, 1000, 125, 0, 25, 762);
    due.is("11 limit(0, 32767, 20, 1000)", 3, () -> x.limit(0, 32767, 20, 1000));
    samplesAre(due, "11 nothing to do", x, 3, 0, 1000, 4000, 500, 0, 100, 3000);
    due.is("11 limit(0, 1000, 20, 1000)", 4, () -> x.limit(0, 1000, 20, 1000));
    // factors 250 250 250 333 333 333 333
    samplesAre(due, "11 all ahead", x, 4, 0, 250, 1000, 166, 0, 33, 999);
    due.argument("11 ceiling 999", () -> x.limit(0, 999, 0, 1));
    due.argument("11 ceiling 32768", () -> x.limit(0, 32768, 0, 1));
    due.argument("11 ahead -1", () -> x.limit(0, 1000, -1, 1));
    due.argument("11 ahead 21", () -> x.limit(0, 1000, 21, 1));
    due.argument("11 release 0", () -> x.limit(0, 1000, 0, 0));
    due.argument("11 release 1001", () -> x.limit(0, 1000, 0, 1001));
    due.bounds("11 no piece", () -> x.limit(5, 999, 0, 0));
    Segueworks low = piece(-30000);
    low.gain(0, 200);
    due.is("11 of -32768", 2, () -> low.limit(1, 1000, 0, 1));
    samplesAre(due, "11 of -32768", low, 2, -983);
    fill(x);
    due.state("11 of 25", () -> x.limit(0, 1000, 0, 1));
    due.argument("11 of 25, ceiling 999", () -> x.limit(0, 999, 0, 1));
  }

  private static void resamples(Due due) {
    Segueworks x = piece(0, 100, -101, 7);
    due.is("12 resample(0, 2, 1)", 1, () -> x.resample(0, 2, 1));
    samplesAre(due, "12 twice", x, 1, 0, 50, 100, 0, -101, -47, 7);
    due.is("12 resample(0, 1, 2)", 2, () -> x.resample(0, 1, 2));
    samplesAre(due, "12 half", x, 2, 0, -101);
    due.is("12 resample(0, 3, 4)", 3, () -> x.resample(0, 3, 4));
    // 1 + 9 / 4 samples, at 0, 4/3, 8/3: (200 - 101) / 3, (-101 + 14) / 3
    samplesAre(due, "12 3 by 4", x, 3, 0, 33, -29);
    due.is("12 resample(0, 4, 4)", 4, () -> x.resample(0, 4, 4));
    samplesAre(due, "12 4 by 4", x, 4, 0, 100, -101, 7);
    x.cut(0, 1, 1);
    due.is("12 of one", 6, () -> x.resample(5, 4, 1));
    samplesAre(due, "12 of one", x, 6, 100);
    due.argument("12 up 0", () -> x.resample(0, 0, 1));
    due.argument("12 up 5", () -> x.resample(0, 5, 1));
    due.argument("12 down 0", () -> x.resample(0, 1, 0));
    due.argument("12 down 5", () -> x.resample(0, 1, 5));
    due.bounds("12 no piece", () -> x.resample(7, 0, 0));
    x.silence(200);
    due.is("12 of 797", 8, () -> x.resample(7, 4, 1));
    due.is("12 lengthOf", 797, () -> x.lengthOf(8));
    due.unsupported("12 of 1593", () -> x.resample(8, 2, 1));
    due.is("12 of 399", 9, () -> x.resample(8, 1, 2));
    due.is("12 lengthOf of 399", 399, () -> x.lengthOf(9));
    fill(x);
    due.state("12 of 25", () -> x.resample(0, 1, 1));
    due.unsupported("12 of 25, of 1593", () -> x.resample(8, 2, 1));
  }

  private static void dithers(Due due) {
    Segueworks x = piece(0, 300, -1);
    due.is("13 dither(0, 1)", 1, () -> x.dither(0, 1));
    // z 48271, 182605794, 1291394886, modulo 256: 143, 226, 70
    samplesAre(due, "13", x, 1, 0, 512, 0);
    due.is("13 dither(0, 2147483646)", 2, () -> x.dither(0, 2147483646));
    // z 2147435376, 1964877853, 856088761, modulo 256: 112, 29, 185
    samplesAre(due, "13 the last seed", x, 2, 0, 256, 0);
    due.argument("13 seed 0", () -> x.dither(0, 0));
    due.argument("13 seed 2147483647", () -> x.dither(0, 2147483647));
    due.bounds("13 no piece", () -> x.dither(3, 0));
    Segueworks high = piece(30000, -30000);
    high.gain(0, 400);
    high.dither(1, 1);
    // 32767 and 143 are 32910: 32768 is held
    samplesAre(due, "13 held", high, 2, 32767, -32768);
    fill(x);
    due.state("13 of 25", () -> x.dither(0, 1));
    due.argument("13 of 25, seed 0", () -> x.dither(0, 0));
  }

  private static void kinds(Due due) {
    Segueworks x = piece(1, 2);
    x.silence(3);
    x.splice(0, 1, 1);
    x.gain(0, 1);
    x.back(0);
    x.limit(0, 1000, 0, 1);
    x.resample(0, 1, 1);
    x.dither(0, 1);
    String letters = "csxgblrd";
    int[] lengths = {2, 3, 4, 2, 2, 2, 2, 2};
    for (int i = 0; i < 8; i++) {
      int piece = i;
      due.is("14 kindOf(" + i + ")", letters.charAt(i), () -> x.kindOf(piece));
      due.is("15 lengthOf(" + i + ")", lengths[i], () -> x.lengthOf(piece));
    }
    due.bounds("14 kindOf(8)", () -> x.kindOf(8));
    due.bounds("14 kindOf(-1)", () -> x.kindOf(-1));
    due.bounds("15 lengthOf(8)", () -> x.lengthOf(8));
    due.bounds("15 lengthOf(-1)", () -> x.lengthOf(-1));
    due.is("16 sampleOf(0, 1)", 2, () -> x.sampleOf(0, 1));
    due.none("16 sampleOf(0, 2)", () -> x.sampleOf(0, 2));
    due.none("16 sampleOf(0, -1)", () -> x.sampleOf(0, -1));
    due.bounds("16 sampleOf(8, -1)", () -> x.sampleOf(8, -1));
    due.bounds("16 sampleOf(24, 0)", () -> x.sampleOf(24, 0));
  }

  private static void levels(Due due) {
    Segueworks x = piece(100, 100, 100, 100, 100, 100, 100, 100, 99, 201);
    // powers 10000 and 25101, their mean 17550
    due.is("17 two windows", 132, () -> x.loudness(0));
    Segueworks quiet = piece(99, 99, 99, 99, 99, 99, 99, 99, 300);
    due.is("17 one below 10000", 300, () -> quiet.loudness(0));
    Segueworks silent = piece(99);
    due.is("17 none", 0, () -> silent.loudness(0));
    due.is("17 a power below 10000", 0, () -> piece(100, 100, 100, 99).loudness(0));
    // powers 10000 and 10401, their mean 10200 and a half
    Segueworks mean = piece(100, 100, 100, 100, 100, 100, 100, 100, 176, 15, 2);
    due.is("17 the mean is cut", 100, () -> mean.loudness(0));
    Segueworks still = piece(0, 0, 0, 0);
    due.is("17 of silence", 0, () -> still.loudness(0));
    due.is("18 of silence", 0, () -> still.peak(0));
    Segueworks loud = piece(-30000, 30000);
    loud.gain(0, 400);
    due.is("17 the loudest", 32767, () -> loud.loudness(1));
    due.bounds("17 loudness(2)", () -> loud.loudness(2));
    due.bounds("18 peak(2)", () -> loud.peak(2));
    due.is("18 of -32768", 32768, () -> loud.peak(1));
    Segueworks between = piece(0, 1000, 1000, 0);
    due.is("18 between", 1125, () -> between.peak(0));
    Segueworks steep = piece(-30000, -30000, 30000, 30000, 30000, -30000, -30000);
    due.is("18 beyond 32767", 33750, () -> steep.peak(0));
    Segueworks three = piece(0, 1000, 1000);
    due.is("18 too few beside", 1000, () -> three.peak(0));
    Segueworks below = piece(1, -1000, -1001, 2);
    // (9 * -2001 - 3) / 16 is -1125.75
    due.is("18 cut towards 0", 1125, () -> below.peak(0));
  }

  private static void paddings(Due due) {
    Segueworks x = piece(1, 2, 3, 4, 5);
    due.is("41 padding(0, 0, 5)", 0, () -> x.padding(0, 0, 5));
    due.is("41 padding(0, 0, 1)", 0, () -> x.padding(0, 0, 1));
    due.is("41 padding(0, 1, 5)", 5, () -> x.padding(0, 1, 5));
    due.is("41 padding(0, 50, 100)", 95, () -> x.padding(0, 50, 100));
    due.is("41 padding(0, 0, 100)", 95, () -> x.padding(0, 0, 100));
    due.argument("41 delay -1", () -> x.padding(0, -1, 5));
    due.argument("41 delay 51", () -> x.padding(0, 51, 5));
    due.argument("41 frame 0", () -> x.padding(0, 0, 0));
    due.argument("41 frame 101", () -> x.padding(0, 0, 101));
    due.bounds("41 no piece", () -> x.padding(1, 51, 0));
  }

  public static void main(String[] args) {
    Due due = new Due();
    cuts(due);
    silences(due);
    splices(due);
    longSplices(due);
    gains(due);
    backs(due);
    limits(due);
    resamples(due);
    dithers(due);
    kinds(due);
    levels(due);
    paddings(due);
    due.end();
  }
}
