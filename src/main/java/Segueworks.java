import java.util.NoSuchElementException;

/** Records as one long breath, from reels and pieces to sides, discs and editions. */
public final class Segueworks {
  private static final int MOST_REELS = 6;
  private static final int REEL_ROOM = 200;
  private static final int REEL_LEVEL = 30000;
  private static final int MOST_PERIOD = 50;
  private static final int MOST_PIECES = 24;
  private static final int PIECE_ROOM = 800;
  private static final int MOST_SILENCE = 200;
  private static final int MOST_GAIN = 400;
  private static final int LOWEST = -32768;
  private static final int HIGHEST = 32767;
  private static final int LEAST_CEILING = 1000;
  private static final int MOST_AHEAD = 20;
  private static final int WHOLE_FACTOR = 1000;
  private static final int MOST_RATE = 4;
  private static final int SHUFFLE_TIMES = 48271;
  private static final int SHUFFLE_PRIME = 2147483647;
  private static final int DITHER_STEP = 256;
  private static final int WINDOW = 8;
  private static final int HEARD_POWER = 10000;
  private static final int MOST_ITEMS = 12;
  private static final int MOST_GAP = 100;
  private static final int PROGRAM_ROOM = 3000;
  private static final int MOST_ROOM = 99999;
  private static final int WIDTH = 2;
  private static final int WIDTH_STEP = 4096;
  private static final int MOST_LACQUERS = 8;
  private static final int MOTHERS_EACH = 3;
  private static final int STAMPERS_EACH = 4;
  private static final int MOST_MOTHERS = 24;
  private static final int MOST_STAMPERS = 96;
  private static final int DISCS_EACH = 500;
  private static final int DISCS_AT_ONCE = 300;
  private static final int MOST_EDITIONS = 5;
  private static final int MOST_OFFSET = 30;
  private static final int MOST_MATCH = 60;
  private static final int NO_MATCH = 61;
  private static final int LEAST_LIKE = 8;
  private static final int DAMAGE_AT_ONCE = 99;
  private static final int MOST_DELAY = 50;
  private static final int MOST_FRAME = 100;
  private static final int PARTIES = 8;
  private static final int WHOLE_SPLIT = 100;
  private static final int PLAYS_AT_ONCE = 9999;
  private static final int MOST_CENTS = 999;
  private static final int JUDGES = 10;
  private static final int MOST_MARK = 10;
  private static final int NO_MARK = -1;

  private final Reel[] reels;
  private int reelCount;
  private final Piece[] pieces;
  private int pieceCount;
  private final Program program;
  private final Plant plant;
  private final Edition[] editions;
  private int editionCount;

  public Segueworks() {
    reels = new Reel[MOST_REELS];
    pieces = new Piece[MOST_PIECES];
    program = new Program();
    plant = new Plant();
    editions = new Edition[MOST_EDITIONS];
  }

  public int reel() throws IllegalStateException {
    if (reelCount >= MOST_REELS) {
      throw new IllegalStateException("there are 6 reels");
    }
    reels[reelCount] = new Reel();
    reelCount++;
    return reelCount - 1;
  }

  public int sample(int reel, int value)
      throws IndexOutOfBoundsException, IllegalArgumentException, IllegalStateException {
    Reel onto = knownReel(reel);
    needRange(value, -REEL_LEVEL, REEL_LEVEL);
    if (onto.length >= REEL_ROOM) {
      throw new IllegalStateException("the reel is full");
    }
    onto.put(value);
    return onto.length;
  }

  public int wave(int reel, int many, int period, int level)
      throws IndexOutOfBoundsException, IllegalArgumentException, IllegalStateException {
    Reel onto = knownReel(reel);
    needRange(many, 1, REEL_ROOM);
    needRange(period, 1, MOST_PERIOD);
    needRange(level, 0, REEL_LEVEL);
    if (onto.length + many > REEL_ROOM) {
      throw new IllegalStateException("the reel has no room for the wave");
    }
    onto.putWave(many, period, level);
    return onto.length;
  }

  public int reelLength(int reel) throws IndexOutOfBoundsException {
    return knownReel(reel).length;
  }

  public int cut(int reel, int from, int many)
      throws IndexOutOfBoundsException, IllegalArgumentException, IllegalStateException {
    Reel of = knownReel(reel);
    if (from < 0 || from > of.length || many > of.length - from) {
      throw new IndexOutOfBoundsException("the reel has no such samples");
    }
    if (many < 1) {
      throw new IllegalArgumentException("a piece has a sample at least");
    }
    needPieceRoom();
    return keep(new Piece('c', many, of.samples, of.samples, from, 0, 0));
  }

  public int silence(int many) throws IllegalArgumentException, IllegalStateException {
    needRange(many, 1, MOST_SILENCE);
    needPieceRoom();
    return keep(new Piece('s', many, null, null, 0, 0, 0));
  }

  public int splice(int piece, int other, int fade)
      throws IndexOutOfBoundsException, IllegalArgumentException, UnsupportedOperationException,
          IllegalStateException {
    int[] first = knownPiece(piece).samples;
    int[] second = knownPiece(other).samples;
    needRange(fade, 0, Math.min(first.length, second.length));
    int length = first.length + second.length - fade;
    needPieceLength(length);
    needPieceRoom();
    return keep(new Piece('x', length, first, second, fade, 0, 0));
  }

  public int gain(int piece, int hundredths)
      throws IndexOutOfBoundsException, IllegalArgumentException, IllegalStateException {
    int[] of = knownPiece(piece).samples;
    needRange(hundredths, 0, MOST_GAIN);
    needPieceRoom();
    return keep(new Piece('g', of.length, of, null, hundredths, 0, 0));
  }

  public int back(int piece) throws IndexOutOfBoundsException, IllegalStateException {
    int[] of = knownPiece(piece).samples;
    needPieceRoom();
    return keep(new Piece('b', of.length, of, null, 0, 0, 0));
  }

  public int limit(int piece, int ceiling, int ahead, int release)
      throws IndexOutOfBoundsException, IllegalArgumentException, IllegalStateException {
    int[] of = knownPiece(piece).samples;
    needRange(ceiling, LEAST_CEILING, HIGHEST);
    needRange(ahead, 0, MOST_AHEAD);
    needRange(release, 1, WHOLE_FACTOR);
    needPieceRoom();
    return keep(new Piece('l', of.length, of, null, ceiling, ahead, release));
  }

  public int resample(int piece, int up, int down)
      throws IndexOutOfBoundsException, IllegalArgumentException, UnsupportedOperationException,
          IllegalStateException {
    int[] of = knownPiece(piece).samples;
    needRange(up, 1, MOST_RATE);
    needRange(down, 1, MOST_RATE);
    int length = 1 + (of.length - 1) * up / down;
    needPieceLength(length);
    needPieceRoom();
    return keep(new Piece('r', length, of, null, up, down, 0));
  }

  public int dither(int piece, int seed)
      throws IndexOutOfBoundsException, IllegalArgumentException, IllegalStateException {
    int[] of = knownPiece(piece).samples;
    needRange(seed, 1, SHUFFLE_PRIME - 1);
    needPieceRoom();
    return keep(new Piece('d', of.length, of, null, seed, 0, 0));
  }

  public char kindOf(int piece) throws IndexOutOfBoundsException {
    return knownPiece(piece).kind;
  }

  public int lengthOf(int piece) throws IndexOutOfBoundsException {
    return knownPiece(piece).samples.length;
  }

  public int sampleOf(int piece, int index)
      throws IndexOutOfBoundsException, NoSuchElementException {
    int[] of = knownPiece(piece).samples;
    needElement(index, of.length);
    return of[index];
  }

  public int loudness(int piece) throws IndexOutOfBoundsException {
    return knownPiece(piece).meanLoudness();
  }

  public int peak(int piece) throws IndexOutOfBoundsException {
    return knownPiece(piece).greatestAmount();
  }

  public int add(int piece, int gap)
      throws IndexOutOfBoundsException, IllegalArgumentException, UnsupportedOperationException,
          IllegalStateException {
    Piece with = knownPiece(piece);
    needRange(gap, 0, MOST_GAP);
    needProgramLength(program.length + gap + with.samples.length);
    if (program.count >= MOST_ITEMS) {
      throw new IllegalStateException("there are 12 items");
    }
    program.append(new Item(piece, with, gap));
    return program.count - 1;
  }

  public boolean lock(int item, boolean is) throws IndexOutOfBoundsException {
    Item locked = knownItem(item);
    boolean was = locked.locked;
    locked.locked = is;
    return was;
  }

  public int replace(int item, int piece)
      throws IndexOutOfBoundsException, UnsupportedOperationException {
    Item in = knownItem(item);
    Piece with = knownPiece(piece);
    needProgramLength(program.length - in.piece.samples.length + with.samples.length);
    int before = in.pieceNumber;
    in.pieceNumber = piece;
    in.piece = with;
    program.rewrite();
    return before;
  }

  public int startOf(int item) throws IndexOutOfBoundsException {
    Item of = knownItem(item);
    return program.gapStart(item) + of.gap;
  }

  public int programLength() {
    return program.length;
  }

  public int heard(int index) throws NoSuchElementException {
    needElement(index, program.length);
    return program.row[index];
  }

  public int sides(int room) throws IllegalArgumentException, UnsupportedOperationException {
    return fittedSides(room);
  }

  public int sideOf(int item, int room)
      throws IndexOutOfBoundsException, IllegalArgumentException, UnsupportedOperationException {
    knownItem(item);
    fittedSides(room);
    return program.sideRow[item];
  }

  public int engrave(int side, int room)
      throws IllegalArgumentException, UnsupportedOperationException, NoSuchElementException,
          IllegalStateException {
    int many = fittedSides(room);
    needElement(side, many);
    if (plant.lacquerCount >= MOST_LACQUERS) {
      throw new IllegalStateException("there are 8 lacquers");
    }
    int from = program.sideStart(side);
    int to = program.sideStart(side + 1);
    plant.engraveRow(program.row, from, to);
    return plant.lacquerCount - 1;
  }

  public int failedAt(int lacquer) throws IndexOutOfBoundsException {
    needIndex(lacquer, plant.lacquerCount);
    return plant.failed[lacquer];
  }

  public int father(int lacquer) throws IndexOutOfBoundsException, UnsupportedOperationException {
    needIndex(lacquer, plant.lacquerCount);
    if (plant.failed[lacquer] >= 0 || plant.gone[lacquer]) {
      throw new UnsupportedOperationException("the lacquer failed or is gone");
    }
    plant.gone[lacquer] = true;
    plant.fatherCount++;
    return plant.fatherCount - 1;
  }

  public int mother(int father) throws IndexOutOfBoundsException, IllegalStateException {
    needIndex(father, plant.fatherCount);
    if (plant.mothersOf[father] >= MOTHERS_EACH) {
      throw new IllegalStateException("the father gave 3 mothers");
    }
    plant.mothersOf[father]++;
    plant.motherCount++;
    return plant.motherCount - 1;
  }

  public int stamper(int mother) throws IndexOutOfBoundsException, IllegalStateException {
    needIndex(mother, plant.motherCount);
    if (plant.stampersOf[mother] >= STAMPERS_EACH) {
      throw new IllegalStateException("the mother gave 4 stampers");
    }
    plant.stampersOf[mother]++;
    plant.stamperCount++;
    return plant.stamperCount - 1;
  }

  public int press(int stamper, int many)
      throws IndexOutOfBoundsException, IllegalArgumentException, IllegalStateException {
    needIndex(stamper, plant.stamperCount);
    needRange(many, 1, DISCS_AT_ONCE);
    if (plant.pressedBy[stamper] + many > DISCS_EACH) {
      throw new IllegalStateException("a stamper presses 500 discs at most");
    }
    return plant.pressDiscs(stamper, many);
  }

  public int edition(int offset)
      throws IllegalArgumentException, UnsupportedOperationException, IllegalStateException {
    needRange(offset, -MOST_OFFSET, MOST_OFFSET);
    if (program.count == 0) {
      throw new UnsupportedOperationException("the program has no items");
    }
    if (editionCount >= MOST_EDITIONS) {
      throw new IllegalStateException("there are 5 editions");
    }
    Edition made = new Edition(program.length);
    made.take(program.row, offset);
    editions[editionCount] = made;
    editionCount++;
    return editionCount - 1;
  }

  public int editionAt(int edition, int index)
      throws IndexOutOfBoundsException, NoSuchElementException, UnsupportedOperationException {
    Edition of = knownEdition(edition);
    needElement(index, of.samples.length);
    if (of.unread[index]) {
      throw new UnsupportedOperationException("the sample is not read");
    }
    return of.samples[index];
  }

  public int sum(int edition, int drive)
      throws IndexOutOfBoundsException, IllegalArgumentException {
    Edition of = knownEdition(edition);
    needRange(drive, -MOST_OFFSET, MOST_OFFSET);
    return of.summed(drive);
  }

  public int match(int edition, int other)
      throws IndexOutOfBoundsException, NoSuchElementException {
    return neededMatch(knownEdition(edition), knownEdition(other));
  }

  public char difference(int edition, int other) throws IndexOutOfBoundsException {
    return knownEdition(edition).classAgainst(knownEdition(other));
  }

  public int differsAt(int edition, int other)
      throws IndexOutOfBoundsException, NoSuchElementException {
    Edition one = knownEdition(edition);
    Edition two = knownEdition(other);
    int at = one.firstDifference(two);
    if (at < 0) {
      throw new NoSuchElementException("they do not differ");
    }
    return at;
  }

  public int damage(int edition, int from, int many)
      throws IndexOutOfBoundsException, IllegalArgumentException {
    Edition of = knownEdition(edition);
    if (from < 0) {
      throw new IllegalArgumentException("the first one is below 0");
    }
    needRange(many, 1, DAMAGE_AT_ONCE);
    of.spoil(from, many);
    return of.samples.length - of.readCount();
  }

  public int repair(int edition, int other)
      throws IndexOutOfBoundsException, NoSuchElementException {
    Edition of = knownEdition(edition);
    Edition by = knownEdition(other);
    int offset = neededMatch(of, by);
    return of.fillFrom(by, offset);
  }

  public int padding(int piece, int delay, int frame)
      throws IndexOutOfBoundsException, IllegalArgumentException {
    int length = knownPiece(piece).samples.length;
    needRange(delay, 0, MOST_DELAY);
    needRange(frame, 1, MOST_FRAME);
    int rest = (delay + length) % frame;
    return rest == 0 ? delay : delay + frame - rest;
  }

  public int shuffled(int z, int index) throws IllegalArgumentException, NoSuchElementException {
    needRange(z, 1, SHUFFLE_PRIME - 1);
    needElement(index, program.count);
    return program.shuffledItem(z, index);
  }

  public int split(int item, int party, int hundredths)
      throws IndexOutOfBoundsException, IllegalArgumentException, UnsupportedOperationException {
    Item of = knownItem(item);
    needRange(party, 0, PARTIES - 1);
    needRange(hundredths, 0, WHOLE_SPLIT);
    int all = of.givenHundredths() - of.hundredths[party] + hundredths;
    if (all > WHOLE_SPLIT) {
      throw new UnsupportedOperationException("all would have more than 100 hundredths");
    }
    of.hundredths[party] = hundredths;
    return WHOLE_SPLIT - all;
  }

  public int play(int item, int times) throws IndexOutOfBoundsException, IllegalArgumentException {
    Item of = knownItem(item);
    needRange(times, 1, PLAYS_AT_ONCE);
    of.plays += times;
    return of.plays;
  }

  public long earned(int party, int cents) throws IllegalArgumentException {
    needRange(party, 0, PARTIES - 1);
    needRange(cents, 1, MOST_CENTS);
    long all = 0;
    for (int i = 0; i < program.count; i++) {
      Item item = program.items[i];
      all += (long) cents * item.plays * item.hundredths[party] / 100;
    }
    return all;
  }

  public int vote(int edition, int judge, int mark)
      throws IndexOutOfBoundsException, IllegalArgumentException {
    Edition of = knownEdition(edition);
    needRange(judge, 0, JUDGES - 1);
    needRange(mark, 0, MOST_MARK);
    of.mark(judge, mark);
    return of.judges;
  }

  public int favourite() throws NoSuchElementException {
    int best = -1;
    for (int i = 0; i < editionCount; i++) {
      if (editions[i].judges > 0 && (best < 0 || editions[i].likedMoreThan(editions[best]))) {
        best = i;
      }
    }
    if (best < 0) {
      throw new NoSuchElementException("no edition has marks");
    }
    return best;
  }

  public float goodShare() throws ArithmeticException {
    if (plant.pressedAll == 0) {
      throw new ArithmeticException("no disc was pressed");
    }
    return (float) plant.goodAll / (float) plant.pressedAll;
  }

  public double meanMark(int edition) throws IndexOutOfBoundsException, ArithmeticException {
    Edition of = knownEdition(edition);
    if (of.judges == 0) {
      throw new ArithmeticException("no judge gave a mark");
    }
    return (double) of.markSum / (double) of.judges;
  }

  public long checksum() {
    long all = 7;
    for (int i = 0; i < pieceCount; i++) {
      int[] samples = pieces[i].samples;
      all = 31 * all + samples.length;
      all = 31 * all + samples[samples.length - 1];
    }
    for (int i = 0; i < program.count; i++) {
      all = 31 * all + program.items[i].pieceNumber;
    }
    for (int i = 0; i < plant.lacquerCount; i++) {
      all = 31 * all + plant.failed[i];
    }
    for (int i = 0; i < plant.stamperCount; i++) {
      all = 31 * all + plant.pressedBy[i];
    }
    for (int i = 0; i < editionCount; i++) {
      all = 31 * all + editions[i].summed(0);
    }
    return all;
  }

  public boolean isTrue() {
    for (int i = 0; i < pieceCount; i++) {
      if (!pieces[i].stands()) {
        return false;
      }
    }
    for (int i = 0; i < editionCount; i++) {
      if (!editions[i].matchesBy(editions[i], 0) && editions[i].readCount() >= LEAST_LIKE) {
        return false;
      }
    }
    return program.stands();
  }

  private static void needIndex(int index, int count) {
    if (index < 0 || index >= count) {
      throw new IndexOutOfBoundsException("there is no such number");
    }
  }

  private static void needElement(int index, int count) {
    if (index < 0 || index >= count) {
      throw new NoSuchElementException("there is none there");
    }
  }

  private static void needRange(int value, int least, int most) {
    if (value < least || value > most) {
      throw new IllegalArgumentException("a number is out of range");
    }
  }

  private static void needPieceLength(int length) {
    if (length > PIECE_ROOM) {
      throw new UnsupportedOperationException("a piece has 800 samples at most");
    }
  }

  private static void needProgramLength(int length) {
    if (length > PROGRAM_ROOM) {
      throw new UnsupportedOperationException("the program has 3000 samples at most");
    }
  }

  private void needPieceRoom() {
    if (pieceCount >= MOST_PIECES) {
      throw new IllegalStateException("there are 24 pieces");
    }
  }

  private Reel knownReel(int reel) {
    needIndex(reel, reelCount);
    return reels[reel];
  }

  private Piece knownPiece(int piece) {
    needIndex(piece, pieceCount);
    return pieces[piece];
  }

  private Item knownItem(int item) {
    needIndex(item, program.count);
    return program.items[item];
  }

  private Edition knownEdition(int edition) {
    needIndex(edition, editionCount);
    return editions[edition];
  }

  private int keep(Piece made) {
    made.fill();
    pieces[pieceCount] = made;
    pieceCount++;
    return pieceCount - 1;
  }

  private int fittedSides(int room) {
    needRange(room, 1, MOST_ROOM);
    int many = program.takeSides(room);
    if (many < 0) {
      throw new UnsupportedOperationException("items do not fit");
    }
    return many;
  }

  private static int neededMatch(Edition edition, Edition other) {
    int offset = edition.matchingOffset(other);
    if (offset == NO_MATCH) {
      throw new NoSuchElementException("it does not match");
    }
    return offset;
  }

  private static int heldSample(int value) {
    return Math.max(LOWEST, Math.min(HIGHEST, value));
  }

  private static int gained(int value, int hundredths) {
    return heldSample(value * hundredths / 100);
  }

  private static int nextZ(int z) {
    return (int) ((long) z * SHUFFLE_TIMES % SHUFFLE_PRIME);
  }

  private static int rootOf(long value) {
    long root = 0;
    for (int bit = 16; bit >= 0; bit--) {
      long tried = root + (1L << bit);
      if (tried * tried <= value) {
        root = tried;
      }
    }
    return (int) root;
  }

  private static final class Reel {
    final int[] samples;
    int length;

    Reel() {
      samples = new int[REEL_ROOM];
    }

    void put(int value) {
      if (length < samples.length) {
        samples[length] = value;
        length++;
      }
    }

    void putWave(int many, int period, int level) {
      for (int k = 0; k < many; k++) {
        put(level * (2 * (k % period) + 1 - period) / period);
      }
    }
  }

  /** A piece with its samples, and all that they are made of, so that each can be checked. */
  private static final class Piece {
    final char kind;
    final int[] samples;
    // The row that it is made of: a reel's for a cut, another piece's otherwise.
    private final int[] source;
    private final int[] second;
    // By kind: a cut's first sample, the fade, the hundredths, the ceiling, up, or the seed.
    private final int setting;
    // By kind: how many a limiter looks ahead, or down.
    private final int setting2;
    private final int release;
    // What one sample hands to the next one: a limiter's factors, or a dither's z.
    private final int[] carries;
    int width;

    Piece(char kind, int length, int[] source, int[] second, int setting, int setting2,
        int release) {
      this.kind = kind;
      this.source = source;
      this.second = second;
      this.setting = setting;
      this.setting2 = setting2;
      this.release = release;
      samples = new int[length];
      carries = new int[kind == 'l' || kind == 'd' ? length : 0];
    }

    void fill() {
      for (int k = 0; k < samples.length; k++) {
        if (k < carries.length) {
          carries[k] = carryAt(k);
        }
        samples[k] = workedOut(k);
        width += widthOf(samples[k]);
      }
    }

    boolean stands() {
      for (int k = 0; k < samples.length; k++) {
        if (k < carries.length && carries[k] != carryAt(k)) {
          return false;
        }
        if (samples[k] != workedOut(k)) {
          return false;
        }
      }
      return true;
    }

    private static int widthOf(int sample) {
      return WIDTH + Math.abs(sample) / WIDTH_STEP;
    }

    private int workedOut(int k) {
      switch (kind) {
        case 'c':
          return source[setting + k];
        case 'x':
          return splicedAt(k);
        case 'g':
          return gained(source[k], setting);
        case 'b':
          return source[source.length - 1 - k];
        case 'l':
          return source[k] * carries[k] / WHOLE_FACTOR;
        case 'r':
          return resampledAt(k);
        case 'd':
          return ditheredAt(k);
        default:
          return 0;
      }
    }

    private int splicedAt(int k) {
      int fade = setting;
      int begin = source.length - fade;
      if (k < begin) {
        return source[k];
      }
      int j = k - begin;
      if (j >= fade) {
        return second[j];
      }
      return (source[k] * (fade - j) + second[j] * (j + 1)) / (fade + 1);
    }

    private int resampledAt(int k) {
      int up = setting;
      int place = k * setting2;
      int j = place / up;
      int rest = place % up;
      if (rest == 0) {
        return source[j];
      }
      return (source[j] * (up - rest) + source[j + 1] * rest) / up;
    }

    private int ditheredAt(int k) {
      int raised = source[k] + carries[k] % DITHER_STEP;
      return heldSample(Math.floorDiv(raised, DITHER_STEP) * DITHER_STEP);
    }

    private int carryAt(int k) {
      if (kind == 'd') {
        return nextZ(k == 0 ? setting : carries[k - 1]);
      }
      int wanted = wantedFactor(k);
      return k == 0 ? wanted : Math.min(wanted, carries[k - 1] + release);
    }

    private int wantedFactor(int k) {
      int greatest = 0;
      int last = Math.min(source.length - 1, k + setting2);
      for (int j = k; j <= last; j++) {
        int amount = source[j] < 0 ? -source[j] : source[j];
        if (amount > greatest) {
          greatest = amount;
        }
      }
      // The factor falls as the amount grows, so the greatest amount wants the least one.
      return greatest == 0
          ? WHOLE_FACTOR
          : Math.min(WHOLE_FACTOR, WHOLE_FACTOR * setting / greatest);
    }

    int meanLoudness() {
      long all = 0;
      int many = 0;
      for (int from = 0; from < samples.length; from += WINDOW) {
        int power = windowPower(from);
        if (power >= HEARD_POWER) {
          all += power;
          many++;
        }
      }
      return many == 0 ? 0 : rootOf(all / many);
    }

    private int windowPower(int from) {
      int to = Math.min(samples.length, from + WINDOW);
      long squares = 0;
      for (int k = from; k < to; k++) {
        squares += (long) samples[k] * samples[k];
      }
      return to > from ? (int) (squares / (to - from)) : 0;
    }

    int greatestAmount() {
      int most = 0;
      for (int k = 0; k < samples.length; k++) {
        most = Math.max(most, Math.abs(samples[k]));
      }
      for (int k = 1; k + 2 < samples.length; k++) {
        int between = 9 * (samples[k] + samples[k + 1]) - samples[k - 1] - samples[k + 2];
        most = Math.max(most, Math.abs(between / 16));
      }
      return most;
    }
  }

  private static final class Item {
    int pieceNumber;
    Piece piece;
    final int gap;
    boolean locked;
    final int[] hundredths;
    int plays;

    Item(int pieceNumber, Piece piece, int gap) {
      this.pieceNumber = pieceNumber;
      this.piece = piece;
      this.gap = gap;
      hundredths = new int[PARTIES];
    }

    int fullLength() {
      return gap + piece.samples.length;
    }

    int fullWidth() {
      return gap * WIDTH + piece.width;
    }

    int givenHundredths() {
      int all = 0;
      for (int i = 0; i < hundredths.length; i++) {
        all += hundredths[i];
      }
      return all;
    }
  }

  private static final class Program {
    final Item[] items;
    int count;
    final int[] row;
    int length;
    // The side of each item, as the last takeSides left it.
    final int[] sideRow;
    private final int[] runRow;

    Program() {
      items = new Item[MOST_ITEMS];
      row = new int[PROGRAM_ROOM];
      sideRow = new int[MOST_ITEMS];
      runRow = new int[MOST_ITEMS];
    }

    void append(Item item) {
      items[count] = item;
      count++;
      write(item);
    }

    void rewrite() {
      length = 0;
      for (int i = 0; i < count; i++) {
        write(items[i]);
      }
    }

    private void write(Item item) {
      int[] samples = item.piece.samples;
      if (length + item.fullLength() > row.length) {
        return;
      }
      for (int k = 0; k < item.gap; k++) {
        row[length + k] = 0;
      }
      System.arraycopy(samples, 0, row, length + item.gap, samples.length);
      length += item.fullLength();
    }

    int gapStart(int item) {
      int start = 0;
      for (int i = 0; i < item; i++) {
        start += items[i].fullLength();
      }
      return start;
    }

    private boolean startsRun(int item) {
      return item == 0 || !items[item - 1].locked;
    }

    private int runEnd(int start) {
      int end = start + 1;
      while (end < count && items[end - 1].locked) {
        end++;
      }
      return end;
    }

    private int runWidth(int start) {
      int end = runEnd(start);
      int width = 0;
      for (int i = start; i < end; i++) {
        width += items[i].fullWidth();
      }
      return width;
    }

    /** Puts each item onto its side; answers how many sides there are, -1 if a run has no room. */
    int takeSides(int room) {
      int many = 0;
      int used = 0;
      for (int i = 0; i < count; i++) {
        if (startsRun(i)) {
          int width = runWidth(i);
          if (width > room) {
            return -1;
          }
          if (many == 0 || used + width > room) {
            many++;
            used = 0;
          }
          used += width;
        }
        sideRow[i] = many - 1;
      }
      return many;
    }

    /** Answers the sample at which a side begins; that behind the last one for the one behind. */
    int sideStart(int side) {
      int start = 0;
      for (int i = 0; i < count && sideRow[i] < side; i++) {
        start += items[i].fullLength();
      }
      return start;
    }

    private int listRuns() {
      int runs = 0;
      for (int i = 0; i < count; i++) {
        if (startsRun(i)) {
          runRow[runs] = i;
          runs++;
        }
      }
      return runs;
    }

    int shuffledItem(int seed, int index) {
      int runs = listRuns();
      int z = seed;
      for (int place = runs - 1; place >= 1; place--) {
        z = nextZ(z);
        int other = z % (place + 1);
        int moved = runRow[place];
        runRow[place] = runRow[other];
        runRow[other] = moved;
      }
      int left = index;
      for (int i = 0; i < runs; i++) {
        int size = runEnd(runRow[i]) - runRow[i];
        if (left < size) {
          return runRow[i] + left;
        }
        left -= size;
      }
      return -1;
    }

    boolean stands() {
      int at = 0;
      for (int i = 0; i < count; i++) {
        Item item = items[i];
        if (item.givenHundredths() > WHOLE_SPLIT || !standsAt(item, at)) {
          return false;
        }
        at += item.fullLength();
      }
      return at == length;
    }

    private boolean standsAt(Item item, int at) {
      if (at + item.fullLength() > length) {
        return false;
      }
      for (int k = 0; k < item.gap; k++) {
        if (row[at + k] != 0) {
          return false;
        }
      }
      int[] samples = item.piece.samples;
      for (int k = 0; k < samples.length; k++) {
        if (row[at + item.gap + k] != samples[k]) {
          return false;
        }
      }
      return true;
    }
  }

  /** Lacquers, and all that is plated and pressed from them. */
  private static final class Plant {
    final int[] failed;
    final boolean[] gone;
    int lacquerCount;
    final int[] mothersOf;
    int fatherCount;
    final int[] stampersOf;
    int motherCount;
    final int[] pressedBy;
    int stamperCount;
    int goodAll;
    int pressedAll;

    Plant() {
      failed = new int[MOST_LACQUERS];
      gone = new boolean[MOST_LACQUERS];
      mothersOf = new int[MOST_LACQUERS];
      stampersOf = new int[MOST_MOTHERS];
      pressedBy = new int[MOST_STAMPERS];
    }

    void engraveRow(int[] row, int from, int to) {
      failed[lacquerCount] = failingPlace(row, from, to);
      lacquerCount++;
    }

    private static int failingPlace(int[] row, int from, int to) {
      int before = 0;
      for (int k = from; k < to; k++) {
        int place = k - from;
        if (Math.abs(row[k] - before) > Math.max(20000 - 8 * place, 2000)) {
          return place;
        }
        before = row[k];
      }
      return -1;
    }

    int pressDiscs(int stamper, int many) {
      int good = 0;
      for (int i = 1; i <= many; i++) {
        int disc = pressedBy[stamper] + i;
        if (7 * disc % 97 >= disc / 100) {
          good++;
        }
      }
      pressedBy[stamper] += many;
      pressedAll += many;
      goodAll += good;
      return good;
    }
  }

  private static final class Edition {
    final int[] samples;
    final boolean[] unread;
    private final int[] marks;
    int judges;
    int markSum;

    Edition(int length) {
      samples = new int[length];
      unread = new boolean[length];
      marks = new int[JUDGES];
      for (int i = 0; i < JUDGES; i++) {
        marks[i] = NO_MARK;
      }
    }

    void take(int[] row, int offset) {
      for (int k = 0; k < samples.length; k++) {
        int from = k - offset;
        samples[k] = from >= 0 && from < samples.length ? row[from] : 0;
      }
    }

    int readCount() {
      int many = 0;
      for (int k = 0; k < unread.length; k++) {
        if (!unread[k]) {
          many++;
        }
      }
      return many;
    }

    int summed(int drive) {
      int all = 0;
      for (int at = Math.max(0, drive); at < samples.length; at++) {
        if (!unread[at]) {
          all += (at - drive + 1) * samples[at];
        }
      }
      return all;
    }

    boolean matchesBy(Edition other, int offset) {
      int like = 0;
      int to = Math.min(samples.length, other.samples.length - offset);
      for (int k = Math.max(0, -offset); k < to; k++) {
        if (!unread[k] && !other.unread[k + offset]) {
          if (samples[k] != other.samples[k + offset]) {
            return false;
          }
          like++;
        }
      }
      return like >= LEAST_LIKE;
    }

    int matchingOffset(Edition other) {
      for (int amount = 0; amount <= MOST_MATCH; amount++) {
        if (matchesBy(other, -amount)) {
          return -amount;
        }
        if (matchesBy(other, amount)) {
          return amount;
        }
      }
      return NO_MATCH;
    }

    char classAgainst(Edition other) {
      if (samples.length != other.samples.length) {
        return 'l';
      }
      int offset = matchingOffset(other);
      if (offset != NO_MATCH) {
        return offset == 0 ? 's' : 'o';
      }
      return isGainedTo(other) ? 'g' : 'd';
    }

    private boolean isGainedTo(Edition other) {
      // A sample never turns round as the gain grows, so the gains that suit one lie side by side.
      int least = 1;
      int most = MOST_GAIN;
      for (int k = 0; k < samples.length && k < other.samples.length; k++) {
        if (!unread[k] && !other.unread[k]) {
          int wanted = other.samples[k];
          while (least <= most && gained(samples[k], least) != wanted) {
            least++;
          }
          while (least <= most && gained(samples[k], most) != wanted) {
            most--;
          }
        }
      }
      return least <= most;
    }

    int firstDifference(Edition other) {
      int shorter = Math.min(samples.length, other.samples.length);
      for (int k = 0; k < shorter; k++) {
        if (!unread[k] && !other.unread[k] && samples[k] != other.samples[k]) {
          return k;
        }
      }
      return samples.length == other.samples.length ? -1 : shorter;
    }

    void spoil(int from, int many) {
      for (int i = 0; i < many && from < samples.length - i; i++) {
        unread[from + i] = true;
      }
    }

    int fillFrom(Edition other, int offset) {
      int got = 0;
      int to = Math.min(samples.length, other.samples.length - offset);
      for (int k = Math.max(0, -offset); k < to; k++) {
        if (unread[k] && !other.unread[k + offset]) {
          samples[k] = other.samples[k + offset];
          unread[k] = false;
          got++;
        }
      }
      return got;
    }

    void mark(int judge, int mark) {
      if (marks[judge] == NO_MARK) {
        judges++;
      } else {
        markSum -= marks[judge];
      }
      marks[judge] = mark;
      markSum += mark;
    }

    boolean likedMoreThan(Edition other) {
      return markSum * other.judges > other.markSum * judges;
    }
  }
}
