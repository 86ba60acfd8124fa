import java.util.ArrayList;
import java.util.List;
import java.util.Map;
import java.util.TreeMap;

/**
 * Long runs of calls against a second, slower program that knows the document only: elements are maps
 * from (n, power of L, power of E) to numbers, rests and integrals come from linear equations.
 */
public final class ModelTest {
  private static final int P = 32003;
  private static final int[] L_POWER = {0, 1, 2, 3, 0, 0, 0, 0};
  private static final int[] E_POWER = {0, 0, 0, 0, -2, -1, 1, 2};
  private static final long INDEX = -101, STATE = -102, ARGUMENT = -103;
  private static long seed = 20261115;
  private static int wrong = 0;
  private static final int[] made = new int[8];
  private static final int[] refusedFar = new int[8];
  private static int rests = 0;
  private static int fullRuns = 0;
  private static int calls = 0;

  private record Spot(int n, int l, int e) implements Comparable<Spot> {
    public int compareTo(Spot o) {
      return n != o.n ? n - o.n : l != o.l ? l - o.l : e - o.e;
    }
  }

  private interface Call {
    long answer();
  }

  private static final class Sum extends TreeMap<Spot, Integer> {
    private static final long serialVersionUID = 1L;

    void plus(int n, int l, int e, long v) {
      Spot s = new Spot(n, l, e);
      int sum = (int) Math.floorMod(getOrDefault(s, 0) + v, (long) P);
      if (sum == 0) {
        remove(s);
      } else {
        put(s, sum);
      }
    }

    boolean tooFar() {
      for (Spot s : keySet()) {
        if (s.n < -4 || s.n > 4 || s.l > 3 || Math.abs(s.e) > 2 || s.l != 0 && s.e != 0) {
          return true;
        }
      }
      return false;
    }

    boolean hasLog() {
      return keySet().stream().anyMatch(s -> s.l != 0);
    }

    boolean hasExponential() {
      return keySet().stream().anyMatch(s -> s.e != 0);
    }
  }

  public static void main(String[] args) {
    for (int run = 0; run < 2000; run++) {
      oneRun(run);
    }
    for (int op = 0; op < 6; op++) {
      if (made[op] < 100 || op > 2 && refusedFar[op] < 100 || rests < 100 || fullRuns < 100) {
        System.out.println("the runs are too thin: call " + op + " made " + made[op] + ", refused "
            + refusedFar[op] + ", rests " + rests + ", runs with 60 elements " + fullRuns);
        wrong++;
      }
    }
    System.out.println(wrong == 0 ? "all runs agree with the model" : wrong + " answers differ");
    if (wrong != 0) {
      System.exit(1);
    }
  }

  private static int below(int bound) {
    seed = seed * 6364136223846793005L + 1442695040888963407L;
    return (int) Math.floorMod(seed >>> 33, (long) bound);
  }

  private static long someNumber() {
    switch (below(6)) {
      case 0: return below(2 * P) - P;
      case 1: return seed;
      case 2: return 0;
      default: return below(7) - 3;
    }
  }

  private static long answerOf(Call call) {
    calls++;
    try {
      return call.answer();
    } catch (RuntimeException e) {
      Class<?> c = e.getClass();
      return c == IndexOutOfBoundsException.class ? INDEX
          : c == IllegalStateException.class ? STATE : c == IllegalArgumentException.class ? ARGUMENT : -999;
    }
  }

  private static void due(int run, String what, long got, long want) {
    if (got != want) {
      wrong++;
      if (wrong < 30) {
        System.out.println("run " + run + ": " + what + " answered " + got + ", due is " + want);
      }
    }
  }

  /** At most 512 calls, since the document promises nothing behind them. */
  private static void oneRun(int run) {
    TowerIntegrals t = new TowerIntegrals();
    List<Sum> model = new ArrayList<>();
    calls = 0;
    while (calls < 512 - 80) {
      int size = model.size();
      int f = below(20) == 0 ? size + below(2) * below(9) : size == 0 ? -1 : below(size);
      int g = below(30) == 0 ? -1 - below(3) : size == 0 ? 0 : below(size);
      int op = below(8);
      if (op > 5) {
        op = size < 8 ? 0 : 5;
      }
      making(run, t, model, op, f, g);
      due(run, "count", answerOf(() -> t.count()), model.size());
      asking(run, t, model, f, g);
    }
    fullRuns += model.size() == 60 ? 1 : 0;
    for (int f = 0; f < model.size() && calls < 512 - 73; f++) {
      sameAsModel(run, t, f, model.get(f));
    }
  }

  private static void making(int run, TowerIntegrals t, List<Sum> model, int op, int f, int g) {
    int kind = below(25) == 0 ? below(2) * 9 - 1 : below(8);
    int n = below(25) == 0 ? below(2) * 10 - 5 : below(3) == 0 ? below(9) - 4 : below(5) - 2;
    long v = someNumber();
    boolean both = has(model, f) && has(model, g);
    Sum due = null;
    long want = STATE;
    if (op == 0 && (kind < 0 || kind > 7 || n < -4 || n > 4)) {
      want = ARGUMENT;
    } else if (op > 0 && !(op < 4 ? both : has(model, f))) {
      want = INDEX;
    } else if (model.size() < 60) {
      due = op == 0 ? termOf(kind, n, v) : op == 1 ? combined(model.get(f), model.get(g), 1)
          : op == 2 ? combined(model.get(f), model.get(g), -Math.floorMod(v, (long) P))
          : op == 3 ? product(model.get(f), model.get(g)) : op == 4 ? slope(model.get(f)) : null;
      if (op == 5) {
        if (hasRest(model.get(f))) {
          want = -1;
          rests++;
        } else {
          due = integral(model.get(f));
        }
      }
    }
    if (due != null && due.tooFar()) {
      refusedFar[op]++;
      due = null;
    }
    if (due != null) {
      made[op]++;
      want = model.size();
      model.add(due);
    }
    long got = answerOf(() -> op == 0 ? t.term(kind, n, v) : op == 1 ? t.add(f, g) : op == 2 ? t.less(f, g, v)
        : op == 3 ? t.times(f, g) : op == 4 ? t.derive(f) : t.integrate(f));
    due(run, "call " + op + " of " + f + ", " + g, got, want);
    if (due != null && got == want) {
      sameAsModel(run, t, model.size() - 1, due);
    }
  }

  private static boolean has(List<Sum> model, int f) {
    return f >= 0 && f < model.size();
  }

  private static void sameAsModel(int run, TowerIntegrals t, int f, Sum want) {
    due(run, "terms(" + f + ", -1)", answerOf(() -> t.terms(f, -1)), want.size());
    for (int kind = 0; kind < 8; kind++) {
      for (int n = -4; n <= 4; n++) {
        Integer number = want.get(new Spot(n, L_POWER[kind], E_POWER[kind]));
        if (number != null) {
          int k = kind;
          int m = n;
          due(run, "at(" + f + ", " + k + ", " + m + ")", answerOf(() -> t.at(f, k, m)), number);
        }
      }
    }
  }

  private static void asking(int run, TowerIntegrals t, List<Sum> model, int f, int g) {
    int kind = below(11) - 2;
    boolean known = kind >= 0 && kind < 8;
    boolean there = has(model, f);
    long otherwise = there ? ARGUMENT : INDEX;
    Sum s = there ? model.get(f) : new Sum();
    switch (below(5)) {
      case 0:
        long terms = s.keySet().stream().filter(p -> kind == -1 || isOf(p, kind)).count();
        due(run, "terms", answerOf(() -> t.terms(f, kind)), there && (known || kind == -1) ? terms : otherwise);
        break;
      case 1:
        long degree = s.keySet().stream().filter(p -> isOf(p, kind)).mapToInt(p -> p.n).max().orElse(-5);
        due(run, "degree", answerOf(() -> t.degree(f, kind)), there && known ? degree : otherwise);
        break;
      case 2:
        due(run, "rest", answerOf(() -> t.rest(f, kind)), there && known ? restOf(s, kind) : otherwise);
        break;
      case 3:
        long x = someNumber(), l = someNumber(), e = someNumber();
        due(run, "value", answerOf(() -> t.value(f, x, l, e)), there ? value(s, x, l, e) : INDEX);
        break;
      default:
        boolean both = there && has(model, g);
        due(run, "same", answerOf(() -> t.same(f, g) ? 1 : 0), both ? s.equals(model.get(g)) ? 1 : 0 : INDEX);
    }
  }

  private static boolean isOf(Spot p, int kind) {
    return kind >= 0 && kind < 8 && p.l == L_POWER[kind] && p.e == E_POWER[kind];
  }

  private static Sum termOf(int kind, int n, long v) {
    Sum s = new Sum();
    s.plus(n, L_POWER[kind], E_POWER[kind], v % P);
    return s;
  }

  private static Sum combined(Sum f, Sum g, long v) {
    Sum s = new Sum();
    f.forEach((p, a) -> s.plus(p.n, p.l, p.e, a));
    g.forEach((p, a) -> s.plus(p.n, p.l, p.e, a * v));
    return s;
  }

  /** Where L meets E, a product that is surely too far stands for it. */
  private static Sum product(Sum f, Sum g) {
    Sum s = new Sum();
    if (f.hasLog() && g.hasExponential() || g.hasLog() && f.hasExponential()) {
      s.plus(99, 0, 0, 1);
      return s;
    }
    f.forEach((p, a) -> g.forEach((q, b) -> s.plus(p.n + q.n, p.l + q.l, p.e + q.e, (long) a * b)));
    return s;
  }

  private static Sum slope(Sum f) {
    Sum s = new Sum();
    for (Map.Entry<Spot, Integer> each : f.entrySet()) {
      Spot p = each.getKey();
      long a = each.getValue();
      s.plus(p.n - 1, p.l, p.e, a * p.n);
      s.plus(p.n - 1, p.l - 1, p.e, a * p.l);
      s.plus(p.n, p.l, p.e, a * p.e);
    }
    return s;
  }

  private static Sum slopeOf(Spot p) {
    Sum s = new Sum();
    s.plus(p.n, p.l, p.e, 1);
    return slope(s);
  }

  private static boolean hasRest(Sum f) {
    for (int kind = 4; kind < 8; kind++) {
      if (restOf(f, kind) != 0) {
        return true;
      }
    }
    return false;
  }

  private static long restOf(Sum f, int kind) {
    if (kind < 4) {
      return 0;
    }
    List<Sum> columns = new ArrayList<>();
    columns.add(termOf(kind, -1, 1));
    for (int n = -3; n <= 4; n++) {
      columns.add(slopeOf(new Spot(n, 0, E_POWER[kind])));
    }
    Sum part = new Sum();
    f.forEach((p, a) -> part.plus(p.n, p.l, p.e, isOf(p, kind) ? a : 0));
    return solved(columns, part)[0];
  }

  private static Sum integral(Sum f) {
    List<Spot> unknown = new ArrayList<>();
    for (int n = -4; n <= 5; n++) {
      for (int l = 0; l <= 4; l++) {
        if (n != 0 || l != 0) {
          unknown.add(new Spot(n, l, 0));
        }
      }
      for (int e = -2; e <= 2; e++) {
        if (e != 0) {
          unknown.add(new Spot(n, 0, e));
        }
      }
    }
    List<Sum> columns = new ArrayList<>();
    unknown.forEach(p -> columns.add(slopeOf(p)));
    long[] b = solved(columns, f);
    Sum s = new Sum();
    for (int i = 0; i < b.length; i++) {
      s.plus(unknown.get(i).n, unknown.get(i).l, unknown.get(i).e, b[i]);
    }
    return s;
  }

  /** The one way to write a sum by the columns; Gauss and Jordan. */
  private static long[] solved(List<Sum> columns, Sum right) {
    TreeMap<Spot, Integer> rows = new TreeMap<>();
    columns.forEach(c -> c.keySet().forEach(p -> rows.put(p, 0)));
    right.keySet().forEach(p -> rows.put(p, 0));
    int height = 0;
    for (Map.Entry<Spot, Integer> each : rows.entrySet()) {
      each.setValue(height++);
    }
    int width = columns.size();
    long[][] m = new long[height][width + 1];
    for (int c = 0; c < width; c++) {
      int column = c;
      columns.get(c).forEach((p, a) -> m[rows.get(p)][column] = a);
    }
    right.forEach((p, a) -> m[rows.get(p)][width] = a);
    for (int c = 0; c < width; c++) {
      pivot(m, c, width);
    }
    for (int r = width; r < height; r++) {
      if (m[r][width] != 0) {
        throw new IllegalStateException("the model's equations have no solution");
      }
    }
    long[] b = new long[width];
    for (int c = 0; c < width; c++) {
      b[c] = m[c][width];
    }
    return b;
  }

  private static void pivot(long[][] m, int c, int width) {
    int r = c;
    while (m[r][c] == 0) {
      r++;
    }
    long[] row = m[r];
    m[r] = m[c];
    m[c] = row;
    long inverse = power(row[c], P - 2);
    for (int k = c; k <= width; k++) {
      row[k] = row[k] * inverse % P;
    }
    for (int other = 0; other < m.length; other++) {
      long factor = m[other][c];
      if (other != c && factor != 0) {
        for (int k = c; k <= width; k++) {
          m[other][k] = Math.floorMod(m[other][k] - factor * row[k], (long) P);
        }
      }
    }
  }

  private static long power(long base, int exponent) {
    return java.math.BigInteger.valueOf(base)
        .modPow(java.math.BigInteger.valueOf(exponent), java.math.BigInteger.valueOf(P)).longValue();
  }

  private static long value(Sum f, long x, long l, long e) {
    long sum = 0;
    for (Map.Entry<Spot, Integer> each : f.entrySet()) {
      Spot p = each.getKey();
      if (p.n < 0 && x % P == 0 || p.e < 0 && e % P == 0) {
        return -1;
      }
      sum = (sum + each.getValue() * (power(x, p.n) * power(l, p.l) % P * power(e, p.e) % P)) % P;
    }
    return sum;
  }
}
