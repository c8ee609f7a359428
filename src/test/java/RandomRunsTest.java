import java.lang.reflect.InvocationTargetException;
import java.lang.reflect.Method;
import java.util.ArrayList;
import java.util.HashMap;
import java.util.List;
import java.util.Map;

/** Runs of 512 calls, drawn from a fixed seed, each answer compared with the Oracle's. */
public final class RandomRunsTest {
  private static final int RUNS = 600;
  private static final int CALLS = 512;

  // For each call its weights in four kinds of run, then for each argument its least and most,
  // or what it numbers: Reels, Pieces, Items, Lacquers, Fathers, Mothers, Stampers, Editions.
  private static final String[] CALLS_TOLD = {
    "reel 2 2 2 2", "sample 4 2 2 8 / R / -30000 30000", "wave 6 4 4 4 / R / 1 200 / 1 50 / 0 30000",
    "wave 4 4 4 4 / R / 1 40 / 1 9 / 0 1900", "reelLength 1 1 1 1 / R", "cut 4 2 2 3 / R / 0 200 / 1 200",
    "cut 4 2 2 3 / R / 0 9 / 1 20", "cut 4 1 1 1 / R / 0 2 / 1 200", "silence 1 1 1 1 / 1 200",
    "splice 6 1 1 1 / P / P / 0 200", "splice 3 2 1 1 / P / P / 0 8", "gain 2 1 1 1 / P / 0 400",
    "back 2 1 1 1 / P", "limit 3 1 1 1 / P / 1000 32767 / 0 20 / 1 1000",
    "limit 3 1 1 1 / P / 1000 9000 / 0 20 / 1 60", "resample 3 2 1 1 / P / 1 4 / 1 4",
    "resample 3 2 1 1 / P / 3 4 / 1 2", "dither 3 1 1 1 / P / 1 2147483646", "kindOf 2 1 1 1 / P",
    "lengthOf 2 1 1 1 / P", "sampleOf 60 3 1 1 / P / 0 799", "sampleOf 40 3 1 1 / P / 0 20",
    "loudness 10 1 1 1 / P", "peak 10 1 1 1 / P", "add 2 6 3 3 / P / 0 100", "add 2 6 3 3 / P / 0 5",
    "lock 1 10 2 2 / I / 0 1", "replace 1 8 2 4 / I / P", "startOf 1 5 1 1 / I", "programLength 1 3 1 1",
    "heard 3 20 1 1 / 0 2999", "heard 3 10 1 1 / 0 400", "sides 1 8 2 1 / 1 9999", "sides 1 8 2 1 / 1 900",
    "sideOf 1 12 2 1 / I / 1 9999", "sideOf 1 12 2 1 / I / 1 900", "engrave 1 4 9 1 / 0 4 / 1 9999",
    "engrave 1 4 9 1 / 0 6 / 1 900", "failedAt 1 2 5 1 / L", "father 1 2 9 1 / L", "mother 1 1 12 1 / F",
    "stamper 1 1 12 1 / M", "press 1 1 10 1 / S / 1 300", "press 1 1 10 1 / S / 1 40",
    "edition 1 1 1 3 / -30 30", "edition 1 1 1 2 / -4 4", "editionAt 1 1 1 30 / E / 0 999",
    "editionAt 1 1 1 30 / E / 0 60", "sum 1 1 1 12 / E / -30 30", "match 1 1 1 20 / E / E",
    "difference 1 1 1 20 / E / E", "differsAt 1 1 1 20 / E / E", "damage 1 1 1 8 / E / 0 999 / 1 99",
    "damage 1 1 1 8 / E / 0 60 / 1 9", "repair 1 1 1 15 / E / E", "padding 3 1 1 1 / P / 0 50 / 1 100",
    "shuffled 1 12 1 1 / 1 2147483646 / I", "shuffled 1 6 1 1 / 1 9 / I", "split 1 8 4 1 / I / 0 7 / 0 100",
    "split 1 8 4 1 / I / 0 7 / 0 20", "play 1 6 4 1 / I / 1 9999", "earned 1 8 4 1 / 0 7 / 1 999",
    "vote 1 1 1 12 / E / 0 9 / 0 10", "favourite 1 1 1 8", "goodShare 1 1 8 1", "meanMark 1 1 1 8 / E",
    "checksum 2 2 2 2", "isTrue 2 2 2 2",
  };

  // The calls that only ask: they change nothing, as each call that throws.
  private static final List<String> ASKS = List.of(
      "reelLength", "kindOf", "lengthOf", "sampleOf", "loudness", "peak", "startOf",
      "programLength", "heard", "sides", "sideOf", "failedAt", "editionAt", "sum", "match",
      "difference", "differsAt", "padding", "shuffled", "earned", "favourite", "goodShare",
      "meanMark", "checksum", "isTrue");

  private static final class Told {
    String name;
    int[] weights = new int[4];
    String[] ranges;
    Method real;
    Method due;
  }

  private static long seed = 20261120;
  private static int wrong;
  private static final Map<String, Integer> seen = new HashMap<>();

  private static int below(int bound) {
    seed = seed * 6364136223846793005L + 1442695040888963407L;
    return (int) Math.floorMod(seed >>> 24, (long) bound);
  }

  private static Method methodOf(Class<?> type, String name) {
    for (Method method : type.getDeclaredMethods()) {
      if (method.getName().equals(name)) return method;
    }
    throw new IllegalStateException("no method " + name);
  }

  private static List<Told> told() {
    List<Told> all = new ArrayList<>();
    for (String row : CALLS_TOLD) {
      String[] parts = row.split(" / ");
      String[] head = parts[0].split(" ");
      Told t = new Told();
      t.name = head[0];
      for (int i = 0; i < 4; i++) t.weights[i] = Integer.parseInt(head[i + 1]);
      t.ranges = java.util.Arrays.copyOfRange(parts, 1, parts.length);
      t.real = methodOf(Segueworks.class, t.name);
      t.due = methodOf(Oracle.class, t.name);
      all.add(t);
    }
    return all;
  }

  private static int edge(int least, int most) {
    int[] edges = {
      least, most, least - 1, most == Integer.MAX_VALUE ? most : most + 1, -1, 0, 1,
      Integer.MIN_VALUE, Integer.MAX_VALUE
    };
    return edges[below(edges.length)];
  }

  private static int drawn(String told, Oracle due) {
    String[] range = told.split(" ");
    boolean numbers = range.length == 1;
    int least = numbers ? 0 : Integer.parseInt(range[0]);
    int most = numbers ? due.many(told.charAt(0)) - 1 : Integer.parseInt(range[1]);
    if (below(20) == 0) return edge(least, most);
    long size = (long) most - least + 1;
    if (size < 1) return least;
    // Low numbers are drawn more, as most pieces are short.
    return least + below((int) (numbers || below(2) == 0 ? size : Math.max(1, size / 3)));
  }

  private static Object[] argumentsOf(Told t, Oracle due) {
    Object[] arguments = new Object[t.ranges.length];
    for (int i = 0; i < arguments.length; i++) {
      boolean yes = t.real.getParameterTypes()[i] == boolean.class;
      arguments[i] = yes ? (Object) (below(3) > 0) : (Object) drawn(t.ranges[i], due);
    }
    return arguments;
  }

  private static String answer(Method method, Object on, Object[] arguments) {
    try {
      return String.valueOf(method.invoke(on, arguments));
    } catch (InvocationTargetException e) {
      return "throws." + e.getCause().getClass().getSimpleName();
    } catch (IllegalAccessException e) {
      return "no access";
    }
  }

  private static Told picked(List<Told> all, int kind) {
    int weights = 0;
    for (Told t : all) weights += t.weights[kind];
    int left = below(weights);
    for (Told t : all) {
      left -= t.weights[kind];
      if (left < 0) return t;
    }
    throw new IllegalStateException("nothing picked");
  }

  private static void compare(int run, Told t, Object[] arguments, Segueworks real, Oracle due) {
    String want = answer(t.due, due, arguments);
    String got = answer(t.real, real, arguments);
    String kind = want.startsWith("throws.") ? want : "answers";
    seen.merge(t.name + " " + kind, 1, Integer::sum);
    if (t.name.equals("difference")) seen.merge("difference " + want, 1, Integer::sum);
    if (!got.equals(want)) {
      wrong++;
      if (wrong < 20) {
        System.out.println("run " + run + ": " + t.name + java.util.Arrays.toString(arguments)
            + " answered " + got + ", due is " + want);
      }
    }
  }

  private static void compareInside(int run, Told t, Object[] arguments, Segueworks real,
      Oracle due) {
    String before = Inside.of(real);
    String want = answer(t.due, due, arguments);
    String got = answer(t.real, real, arguments);
    boolean changes = !got.startsWith("throws.") && !ASKS.contains(t.name);
    if (!got.equals(want) || !changes && !before.equals(Inside.of(real))) {
      wrong++;
      System.out.println("run " + run + ": " + t.name + java.util.Arrays.toString(arguments)
          + " answered " + got + ", due is " + want + ", or changed what it may not");
    }
  }

  private static void compareRows(int run, Told t, int numbers, Segueworks real, Oracle due) {
    for (int n = 0; n < numbers; n++) {
      for (int k = 0; k < 3001; k += k < 60 ? 1 : 37) {
        compare(run, t, new Object[] {n, k}, real, due);
      }
    }
  }

  private static void sameState(int run, List<Told> all, Segueworks real, Oracle due) {
    for (Told t : all) {
      if (t.name.equals("sampleOf")) compareRows(run, t, due.many('P'), real, due);
      if (t.name.equals("editionAt")) compareRows(run, t, due.many('E'), real, due);
    }
  }

  /** Each call of the document is drawn both with an answer and with each exception it names. */
  private static void needSeen(Told t) {
    List<String> kinds = new ArrayList<>();
    kinds.add("answers");
    for (Class<?> type : t.real.getExceptionTypes()) kinds.add("throws." + type.getSimpleName());
    for (String kind : kinds) {
      if (!seen.containsKey(t.name + " " + kind)) {
        wrong++;
        System.out.println(t.name + " was never drawn so that it " + kind);
      }
    }
  }

  public static void main(String[] args) {
    List<Told> all = told();
    for (int run = 0; run < RUNS; run++) {
      Segueworks real = new Segueworks();
      Oracle due = new Oracle();
      for (int call = 0; call < CALLS; call++) {
        Told t = picked(all, run % 4);
        Object[] arguments = argumentsOf(t, due);
        if (run % 25 < 4) {
          compareInside(run, t, arguments, real, due);
        } else {
          compare(run, t, arguments, real, due);
        }
      }
      sameState(run, all, real, due);
    }
    for (Told t : all) needSeen(t);
    for (String kind : new String[] {"s", "o", "l", "g", "d"}) {
      if (!seen.containsKey("difference " + kind)) {
        wrong++;
        System.out.println("difference was never drawn so that it answers " + kind);
      }
    }
    if (args.length > 0) System.out.println(new java.util.TreeMap<>(seen).toString().replace(", ", "\n"));
    System.out.println(wrong == 0 ? "all answers are as due" : wrong + " answers are not as due");
    if (wrong != 0) System.exit(1);
  }
}
