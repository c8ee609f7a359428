import java.math.BigInteger;
import java.util.ArrayList;
import java.util.Arrays;
import java.util.List;
import java.util.NoSuchElementException;

/** The document once more, slowly and by its definitions, for RandomRunsTest to compare with. */
public final class Oracle {
  private static final class Piece {
    char kind;
    int[] is;
  }

  private static final class Item {
    int piece;
    int gap;
    boolean locked;
    int[] split = new int[8];
    int plays;
  }

  private static final class Lacquer {
    int failed;
    boolean gone;
  }

  private static final class Edition {
    // null where it is not read
    Integer[] is;
    Integer[] marks = new Integer[10];
  }

  private final List<List<Integer>> reels = new ArrayList<>();
  private final List<Piece> pieces = new ArrayList<>();
  private final List<Item> items = new ArrayList<>();
  private final List<Lacquer> lacquers = new ArrayList<>();
  private final List<Integer> fathers = new ArrayList<>();
  private final List<Integer> mothers = new ArrayList<>();
  private final List<List<Boolean>> stampers = new ArrayList<>();
  private final List<Edition> editions = new ArrayList<>();

  /** How many there are of what a letter of RandomRunsTest's table numbers. */
  int many(char letter) {
    switch (letter) {
      case 'R': return reels.size();
      case 'P': return pieces.size();
      case 'I': return items.size();
      case 'L': return lacquers.size();
      case 'F': return fathers.size();
      case 'M': return mothers.size();
      case 'S': return stampers.size();
      default: return editions.size();
    }
  }

  private static <T> T in(List<T> list, int index) {
    if (index < 0 || index >= list.size()) throw new IndexOutOfBoundsException();
    return list.get(index);
  }

  private static void argument(boolean holds) {
    if (!holds) throw new IllegalArgumentException();
  }

  private static void state(boolean holds) {
    if (!holds) throw new IllegalStateException();
  }

  private static void supported(boolean holds) {
    if (!holds) throw new UnsupportedOperationException();
  }

  private static void there(boolean holds) {
    if (!holds) throw new NoSuchElementException();
  }

  private static boolean within(int value, int least, int most) {
    return least <= value && value <= most;
  }

  private int made(char kind, long[] samples) {
    Piece p = new Piece();
    p.kind = kind;
    p.is = new int[samples.length];
    for (int i = 0; i < samples.length; i++) {
      p.is[i] = samples[i] > 32767 ? 32767 : samples[i] < -32768 ? -32768 : (int) samples[i];
    }
    pieces.add(p);
    return pieces.size() - 1;
  }

  public int reel() {
    state(reels.size() < 6);
    reels.add(new ArrayList<>());
    return reels.size() - 1;
  }

  public int sample(int reel, int value) {
    List<Integer> r = in(reels, reel);
    argument(within(value, -30000, 30000));
    state(r.size() < 200);
    r.add(value);
    return r.size();
  }

  public int wave(int reel, int many, int period, int level) {
    List<Integer> r = in(reels, reel);
    argument(within(many, 1, 200) && within(period, 1, 50) && within(level, 0, 30000));
    state(r.size() + many <= 200);
    for (int k = 0; k < many; k++) {
      long number = 2L * (k % period) + 1 - period;
      r.add((int) (level * number / period));
    }
    return r.size();
  }

  public int reelLength(int reel) {
    return in(reels, reel).size();
  }

  public int cut(int reel, int from, int many) {
    List<Integer> r = in(reels, reel);
    if (from < 0 || from > r.size() || (long) from + many > r.size()) {
      throw new IndexOutOfBoundsException();
    }
    argument(many >= 1);
    state(pieces.size() < 24);
    long[] s = new long[many];
    for (int i = 0; i < many; i++) s[i] = r.get(from + i);
    return made('c', s);
  }

  public int silence(int many) {
    argument(within(many, 1, 200));
    state(pieces.size() < 24);
    return made('s', new long[many]);
  }

  public int splice(int piece, int other, int fade) {
    int[] a = in(pieces, piece).is;
    int[] b = in(pieces, other).is;
    argument(fade >= 0 && fade <= a.length && fade <= b.length);
    supported(a.length + b.length - fade <= 800);
    state(pieces.size() < 24);
    long[] s = new long[a.length + b.length - fade];
    int n = 0;
    for (int i = 0; i < a.length - fade; i++) s[n++] = a[i];
    for (int k = 0; k < fade; k++) {
      long both = (long) a[a.length - fade + k] * (fade - k) + (long) b[k] * (k + 1);
      s[n++] = both / (fade + 1);
    }
    for (int i = fade; i < b.length; i++) s[n++] = b[i];
    return made('x', s);
  }

  public int gain(int piece, int hundredths) {
    int[] a = in(pieces, piece).is;
    argument(within(hundredths, 0, 400));
    state(pieces.size() < 24);
    long[] s = new long[a.length];
    for (int i = 0; i < s.length; i++) s[i] = (long) a[i] * hundredths / 100;
    return made('g', s);
  }

  public int back(int piece) {
    int[] a = in(pieces, piece).is;
    state(pieces.size() < 24);
    long[] s = new long[a.length];
    for (int i = 0; i < s.length; i++) s[s.length - 1 - i] = a[i];
    return made('b', s);
  }

  public int limit(int piece, int ceiling, int ahead, int release) {
    int[] a = in(pieces, piece).is;
    argument(within(ceiling, 1000, 32767) && within(ahead, 0, 20) && within(release, 1, 1000));
    state(pieces.size() < 24);
    long[] s = new long[a.length];
    long before = 0;
    for (int i = 0; i < s.length; i++) {
      long wanted = 1000;
      for (int j = i; j <= i + ahead && j < s.length; j++) {
        long own = a[j] == 0 ? 1000 : Math.min(1000, 1000L * ceiling / Math.abs((long) a[j]));
        wanted = Math.min(wanted, own);
      }
      long factor = i == 0 ? wanted : Math.min(wanted, before + release);
      s[i] = a[i] * factor / 1000;
      before = factor;
    }
    return made('l', s);
  }

  public int resample(int piece, int up, int down) {
    int[] a = in(pieces, piece).is;
    argument(within(up, 1, 4) && within(down, 1, 4));
    int n = 1 + (a.length - 1) * up / down;
    supported(n <= 800);
    state(pieces.size() < 24);
    long[] s = new long[n];
    for (int k = 0; k < n; k++) {
      int j = k * down / up;
      int r = k * down - j * up;
      s[k] = r == 0 ? a[j] : ((long) a[j] * (up - r) + (long) a[j + 1] * r) / up;
    }
    return made('r', s);
  }

  public int dither(int piece, int seed) {
    int[] a = in(pieces, piece).is;
    argument(within(seed, 1, 2147483646));
    state(pieces.size() < 24);
    BigInteger prime = BigInteger.valueOf(2147483647);
    long[] s = new long[a.length];
    for (int i = 0; i < s.length; i++) {
      BigInteger power = BigInteger.valueOf(48271).modPow(BigInteger.valueOf(i + 1), prime);
      long z = BigInteger.valueOf(seed).multiply(power).mod(prime).longValue();
      s[i] = ((a[i] + z % 256) >> 8) * 256;
    }
    return made('d', s);
  }

  public char kindOf(int piece) {
    return in(pieces, piece).kind;
  }

  public int lengthOf(int piece) {
    return in(pieces, piece).is.length;
  }

  public int sampleOf(int piece, int index) {
    int[] a = in(pieces, piece).is;
    there(index >= 0 && index < a.length);
    return a[index];
  }

  public int loudness(int piece) {
    int[] a = in(pieces, piece).is;
    BigInteger all = BigInteger.ZERO;
    int many = 0;
    for (int from = 0; from < a.length; from += 8) {
      int[] window = Arrays.copyOfRange(a, from, Math.min(a.length, from + 8));
      long squares = 0;
      for (int v : window) squares += (long) v * v;
      long power = squares / window.length;
      if (power >= 10000) {
        all = all.add(BigInteger.valueOf(power));
        many++;
      }
    }
    return many == 0 ? 0 : all.divide(BigInteger.valueOf(many)).sqrt().intValueExact();
  }

  public int peak(int piece) {
    int[] a = in(pieces, piece).is;
    int most = 0;
    for (int v : a) most = Math.max(most, Math.abs(v));
    for (int right = 2; right <= a.length - 2; right++) {
      int inner = 9 * a[right - 1] + 9 * a[right];
      int outer = a[right - 2] + a[right + 1];
      most = Math.max(most, Math.abs((inner - outer) / 16));
    }
    return most;
  }

  private List<Integer> program() {
    List<Integer> all = new ArrayList<>();
    for (Item item : items) {
      for (int i = 0; i < item.gap; i++) all.add(0);
      for (int v : pieces.get(item.piece).is) all.add(v);
    }
    return all;
  }

  public int add(int piece, int gap) {
    Piece p = in(pieces, piece);
    argument(within(gap, 0, 100));
    supported(program().size() + gap + p.is.length <= 3000);
    state(items.size() < 12);
    Item item = new Item();
    item.piece = piece;
    item.gap = gap;
    items.add(item);
    return items.size() - 1;
  }

  public boolean lock(int item, boolean is) {
    Item it = in(items, item);
    boolean was = it.locked;
    it.locked = is;
    return was;
  }

  public int replace(int item, int piece) {
    Item it = in(items, item);
    Piece p = in(pieces, piece);
    supported(program().size() - pieces.get(it.piece).is.length + p.is.length <= 3000);
    int before = it.piece;
    it.piece = piece;
    return before;
  }

  public int startOf(int item) {
    in(items, item);
    int at = 0;
    for (int i = 0; i < item; i++) at += items.get(i).gap + pieces.get(items.get(i).piece).is.length;
    return at + items.get(item).gap;
  }

  public int programLength() {
    return program().size();
  }

  public int heard(int index) {
    List<Integer> all = program();
    there(index >= 0 && index < all.size());
    return all.get(index);
  }

  private int width(int from, int to) {
    int w = 0;
    for (int i = from; i < to; i++) {
      w += 2 * items.get(i).gap;
      for (int v : pieces.get(items.get(i).piece).is) w += 2 + Math.abs(v) / 4096;
    }
    return w;
  }

  /** The ends of the fewest sides, each as far as it can go; by trying every parting. */
  private List<Integer> parted(int room) {
    int n = items.size();
    int[] fewest = new int[n + 1];
    int[] next = new int[n + 1];
    for (int i = n - 1; i >= 0; i--) {
      fewest[i] = 1000;
      for (int j = i + 1; j <= n; j++) {
        boolean parts = j < n && items.get(j - 1).locked;
        if (!parts && width(i, j) <= room && fewest[j] + 1 <= fewest[i]) {
          fewest[i] = fewest[j] + 1;
          next[i] = j;
        }
      }
    }
    supported(fewest[0] < 1000);
    List<Integer> ends = new ArrayList<>();
    for (int i = 0; i < n; i = next[i]) ends.add(next[i]);
    return ends;
  }

  public int sides(int room) {
    argument(within(room, 1, 99999));
    return parted(room).size();
  }

  public int sideOf(int item, int room) {
    in(items, item);
    argument(within(room, 1, 99999));
    List<Integer> ends = parted(room);
    int side = 0;
    while (ends.get(side) <= item) side++;
    return side;
  }

  public int engrave(int side, int room) {
    argument(within(room, 1, 99999));
    List<Integer> ends = parted(room);
    there(side >= 0 && side < ends.size());
    state(lacquers.size() < 8);
    List<Integer> cut = new ArrayList<>();
    for (int i = side == 0 ? 0 : ends.get(side - 1); i < ends.get(side); i++) {
      for (int g = 0; g < items.get(i).gap; g++) cut.add(0);
      for (int v : pieces.get(items.get(i).piece).is) cut.add(v);
    }
    Lacquer l = new Lacquer();
    l.failed = -1;
    for (int k = cut.size() - 1; k >= 0; k--) {
      int step = Math.abs(cut.get(k) - (k == 0 ? 0 : cut.get(k - 1)));
      if (step > 20000 - 8 * k && step > 2000) l.failed = k;
    }
    lacquers.add(l);
    return lacquers.size() - 1;
  }

  public int failedAt(int lacquer) {
    return in(lacquers, lacquer).failed;
  }

  public int father(int lacquer) {
    Lacquer l = in(lacquers, lacquer);
    supported(l.failed == -1 && !l.gone);
    l.gone = true;
    fathers.add(0);
    return fathers.size() - 1;
  }

  public int mother(int father) {
    int gave = in(fathers, father);
    state(gave < 3);
    fathers.set(father, gave + 1);
    mothers.add(0);
    return mothers.size() - 1;
  }

  public int stamper(int mother) {
    int gave = in(mothers, mother);
    state(gave < 4);
    mothers.set(mother, gave + 1);
    stampers.add(new ArrayList<>());
    return stampers.size() - 1;
  }

  public int press(int stamper, int many) {
    List<Boolean> discs = in(stampers, stamper);
    argument(within(many, 1, 300));
    state(discs.size() + many <= 500);
    int good = 0;
    for (int i = 0; i < many; i++) {
      int n = discs.size() + 1;
      boolean bad = Math.floorMod(7 * n, 97) < n / 100;
      discs.add(!bad);
      if (!bad) good++;
    }
    return good;
  }

  public int edition(int offset) {
    argument(within(offset, -30, 30));
    supported(!items.isEmpty());
    state(editions.size() < 5);
    List<Integer> all = program();
    Edition e = new Edition();
    e.is = new Integer[all.size()];
    for (int k = 0; k < e.is.length; k++) {
      int at = k - offset;
      e.is[k] = at >= 0 && at < all.size() ? all.get(at) : 0;
    }
    editions.add(e);
    return editions.size() - 1;
  }

  public int editionAt(int edition, int index) {
    Edition e = in(editions, edition);
    there(index >= 0 && index < e.is.length);
    supported(e.is[index] != null);
    return e.is[index];
  }

  /** The sample, null where there is none or it is not read. */
  private static Integer at(Edition e, int k) {
    return k >= 0 && k < e.is.length ? e.is[k] : null;
  }

  public int sum(int edition, int drive) {
    Edition e = in(editions, edition);
    argument(within(drive, -30, 30));
    BigInteger all = BigInteger.ZERO;
    for (int k = 0; k < e.is.length + 40; k++) {
      Integer v = at(e, k + drive);
      if (v != null) all = all.add(BigInteger.valueOf((k + 1L) * v));
    }
    return all.intValue();
  }

  private static boolean matches(Edition a, Edition b, int offset) {
    int like = 0;
    for (int k = 0; k < a.is.length; k++) {
      Integer v = at(a, k);
      Integer w = at(b, k + offset);
      if (v != null && w != null) {
        if (!v.equals(w)) return false;
        like++;
      }
    }
    return like >= 8;
  }

  private static Integer matching(Edition a, Edition b) {
    Integer best = null;
    for (int offset = -60; offset <= 60; offset++) {
      if ((best == null || Math.abs(offset) < Math.abs(best)) && matches(a, b, offset)) best = offset;
    }
    return best;
  }

  public int match(int edition, int other) {
    Integer offset = matching(in(editions, edition), in(editions, other));
    there(offset != null);
    return offset;
  }

  public char difference(int edition, int other) {
    Edition a = in(editions, edition);
    Edition b = in(editions, other);
    boolean asMany = a.is.length == b.is.length;
    if (asMany && matches(a, b, 0)) return 's';
    if (asMany && matching(a, b) != null) return 'o';
    if (!asMany) return 'l';
    for (int h = 1; h <= 400; h++) {
      boolean becomes = true;
      for (int k = 0; k < a.is.length && becomes; k++) {
        if (a.is[k] != null && b.is[k] != null) {
          int v = Math.max(-32768, Math.min(32767, a.is[k] * h / 100));
          becomes = v == b.is[k];
        }
      }
      if (becomes) return 'g';
    }
    return 'd';
  }

  public int differsAt(int edition, int other) {
    Edition a = in(editions, edition);
    Edition b = in(editions, other);
    int shorter = Math.min(a.is.length, b.is.length);
    for (int k = 0; k < shorter; k++) {
      if (a.is[k] != null && b.is[k] != null && !a.is[k].equals(b.is[k])) return k;
    }
    there(a.is.length != b.is.length);
    return shorter;
  }

  public int damage(int edition, int from, int many) {
    Edition e = in(editions, edition);
    argument(from >= 0 && within(many, 1, 99));
    int not = 0;
    for (int k = 0; k < e.is.length; k++) {
      if (k >= from && k < (long) from + many) e.is[k] = null;
      if (e.is[k] == null) not++;
    }
    return not;
  }

  public int repair(int edition, int other) {
    Edition a = in(editions, edition);
    Edition b = in(editions, other);
    Integer offset = matching(a, b);
    there(offset != null);
    int gets = 0;
    for (int k = 0; k < a.is.length; k++) {
      if (a.is[k] == null && at(b, k + offset) != null) {
        a.is[k] = at(b, k + offset);
        gets++;
      }
    }
    return gets;
  }

  public int padding(int piece, int delay, int frame) {
    int n = in(pieces, piece).is.length;
    argument(within(delay, 0, 50) && within(frame, 1, 100));
    int padded = delay;
    while ((n + padded) % frame != 0) padded++;
    return padded;
  }

  public int shuffled(int z, int index) {
    argument(within(z, 1, 2147483646));
    there(index >= 0 && index < items.size());
    List<List<Integer>> runs = new ArrayList<>();
    for (int i = 0; i < items.size(); i++) {
      if (i == 0 || !items.get(i - 1).locked) runs.add(new ArrayList<>());
      runs.get(runs.size() - 1).add(i);
    }
    long y = z;
    for (int place = runs.size() - 1; place > 0; place--) {
      y = y * 48271 % 2147483647;
      java.util.Collections.swap(runs, place, (int) (y % (place + 1)));
    }
    List<Integer> all = new ArrayList<>();
    for (List<Integer> run : runs) all.addAll(run);
    return all.get(index);
  }

  public int split(int item, int party, int hundredths) {
    Item it = in(items, item);
    argument(within(party, 0, 7) && within(hundredths, 0, 100));
    int[] then = it.split.clone();
    then[party] = hundredths;
    int all = Arrays.stream(then).sum();
    supported(all <= 100);
    it.split = then;
    return 100 - all;
  }

  public int play(int item, int times) {
    Item it = in(items, item);
    argument(within(times, 1, 9999));
    it.plays += times;
    return it.plays;
  }

  public long earned(int party, int cents) {
    argument(within(party, 0, 7) && within(cents, 1, 999));
    BigInteger all = BigInteger.ZERO;
    for (Item it : items) {
      BigInteger paid = BigInteger.valueOf(cents).multiply(BigInteger.valueOf(it.plays));
      BigInteger part = paid.multiply(BigInteger.valueOf(it.split[party]));
      all = all.add(part.divide(BigInteger.valueOf(100)));
    }
    return all.longValueExact();
  }

  public int vote(int edition, int judge, int mark) {
    Edition e = in(editions, edition);
    argument(within(judge, 0, 9) && within(mark, 0, 10));
    e.marks[judge] = mark;
    return count(e);
  }

  private static int count(Edition e) {
    int n = 0;
    for (Integer m : e.marks) if (m != null) n++;
    return n;
  }

  private static int total(Edition e) {
    int all = 0;
    for (Integer m : e.marks) if (m != null) all += m;
    return all;
  }

  public int favourite() {
    int best = -1;
    // 2520 is a multiple of every number of judges, so the means are whole.
    int bestMean = -1;
    for (int i = 0; i < editions.size(); i++) {
      Edition e = editions.get(i);
      if (count(e) > 0 && 2520 * total(e) / count(e) > bestMean) {
        best = i;
        bestMean = 2520 * total(e) / count(e);
      }
    }
    there(best >= 0);
    return best;
  }

  public float goodShare() {
    int good = 0;
    int all = 0;
    for (List<Boolean> discs : stampers) {
      for (boolean is : discs) {
        all++;
        if (is) good++;
      }
    }
    if (all == 0) throw new ArithmeticException();
    return (float) good / (float) all;
  }

  public double meanMark(int edition) {
    Edition e = in(editions, edition);
    if (count(e) == 0) throw new ArithmeticException();
    return (double) total(e) / (double) count(e);
  }

  public long checksum() {
    List<Integer> terms = new ArrayList<>();
    for (Piece p : pieces) {
      terms.add(p.is.length);
      terms.add(p.is[p.is.length - 1]);
    }
    for (Item it : items) terms.add(it.piece);
    for (Lacquer l : lacquers) terms.add(l.failed);
    for (List<Boolean> discs : stampers) terms.add(discs.size());
    for (int i = 0; i < editions.size(); i++) terms.add(sum(i, 0));
    BigInteger all = BigInteger.valueOf(7);
    for (int term : terms) {
      all = all.multiply(BigInteger.valueOf(31)).add(BigInteger.valueOf(term));
    }
    return all.longValue();
  }

  public boolean isTrue() {
    return true;
  }
}
