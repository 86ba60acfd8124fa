/** Each promise of the document by hand: ordinary inputs, the edges it names, and wrong inputs. */
public final class PromisesTest {
  private static final int P = 32003;
  private static final int ONE = 0, L = 1, LL = 2, LLL = 3, EE_UNDER = 4, E_UNDER = 5, E = 6, EE = 7;
  private static final Class<?> INDEX = IndexOutOfBoundsException.class;
  private static final Class<?> STATE = IllegalStateException.class;
  private static final Class<?> ARGUMENT = IllegalArgumentException.class;
  private static int wrong = 0;

  private interface Call {
    Object answer();
  }

  public static void main(String[] args) {
    newObject();
    term();
    add();
    less();
    times();
    timesTooFar();
    derive();
    integrateLogs();
    integrateExponentials();
    integrateTooFar();
    rest();
    at();
    terms();
    degree();
    value();
    same();
    count();
    orderOfExceptions();
    full();
    System.out.println(wrong == 0 ? "all promises hold" : wrong + " checks failed");
    if (wrong != 0) {
      System.exit(1);
    }
  }

  private static void due(String what, Object got, Object want) {
    if (!got.equals(want)) {
      wrong++;
      System.out.println(what + ": answered " + got + ", due is " + want);
    }
  }

  /** That the call throws just this, and that it makes nothing. */
  private static void refused(String what, TowerIntegrals t, Class<?> want, Call call) {
    int before = t.count();
    Object got;
    try {
      got = call.answer();
    } catch (RuntimeException e) {
      got = e.getClass();
    }
    due(what, got, want);
    due(what + ", count behind it", t.count(), before);
  }

  /** That an element is just the sum of these terms: rows of kind, n, number (none of them 0). */
  private static void isSum(String what, TowerIntegrals t, int f, int[][] rows) {
    due(what + ", terms", t.terms(f, -1), rows.length);
    for (int[] row : rows) {
      due(what + " at kind " + row[0] + ", n " + row[1], t.at(f, row[0], row[1]), Math.floorMod(row[2], P));
    }
  }

  private static int sum(TowerIntegrals t, int[][] rows) {
    int f = t.term(0, 0, 0);
    for (int[] row : rows) {
      f = t.add(f, t.term(row[0], row[1], row[2]));
    }
    return f;
  }

  private static int over(int a, int b) {
    for (int q = 0; q < P; q++) {
      if (Math.floorMod((long) q * b - a, P) == 0) {
        return q;
      }
    }
    throw new IllegalArgumentException("no quotient");
  }

  private static void newObject() {
    TowerIntegrals t = new TowerIntegrals();
    due("new count", t.count(), 0);
    refused("new at", t, INDEX, () -> t.at(0, 0, 0));
    t.term(0, 0, 1);
    due("another new count", new TowerIntegrals().count(), 0);
  }

  private static void term() {
    TowerIntegrals t = new TowerIntegrals();
    due("term first", t.term(E, -4, 5), 0);
    due("term second", t.term(L, 4, -1), 1);
    isSum("term 5 E / x^4", t, 0, new int[][] {{E, -4, 5}});
    isSum("term -x^4 L", t, 1, new int[][] {{L, 4, -1}});
    due("term of the modulus", t.terms(t.term(0, 0, P), -1), 0);
    due("term of the greatest long", t.at(t.term(0, 0, Long.MAX_VALUE), 0, 0), (int) (Long.MAX_VALUE % P));
    due("term of the least long", t.at(t.term(0, 0, Long.MIN_VALUE), 0, 0),
        (int) Math.floorMod(Long.MIN_VALUE, (long) P));
    for (int n : new int[] {-5, 5, Integer.MIN_VALUE, Integer.MAX_VALUE}) {
      refused("term n " + n, t, ARGUMENT, () -> t.term(0, n, 1));
    }
    for (int kind : new int[] {-1, 8, Integer.MIN_VALUE, Integer.MAX_VALUE}) {
      refused("term kind " + kind, t, ARGUMENT, () -> t.term(kind, 0, 1));
    }
  }

  private static void add() {
    TowerIntegrals t = new TowerIntegrals();
    int f = t.term(LL, 2, 32000);
    int g = t.term(LL, 2, 5);
    int h = t.term(EE, -1, 7);
    due("add handle", t.add(f, g), 3);
    isSum("add past the modulus", t, 3, new int[][] {{LL, 2, 2}});
    isSum("add different kinds", t, t.add(f, h), new int[][] {{LL, 2, 32000}, {EE, -1, 7}});
    isSum("add to itself", t, t.add(h, h), new int[][] {{EE, -1, 14}});
    isSum("add leaves f", t, f, new int[][] {{LL, 2, 32000}});
    due("add to nothing", t.terms(t.add(t.term(0, 1, 1), t.term(0, 1, -1)), -1), 0);
    refused("add no f", t, INDEX, () -> t.add(-1, 0));
    refused("add no g", t, INDEX, () -> t.add(0, t.count()));
  }

  private static void less() {
    TowerIntegrals t = new TowerIntegrals();
    int f = t.term(ONE, 1, 10);
    int g = t.term(ONE, 1, 3);
    int h = t.term(E, 0, 1);
    isSum("less 2 g", t, t.less(f, g, 2), new int[][] {{ONE, 1, 4}});
    isSum("less -2 g", t, t.less(f, g, -2), new int[][] {{ONE, 1, 16}});
    isSum("less h", t, t.less(f, h, 1), new int[][] {{ONE, 1, 10}, {E, 0, -1}});
    isSum("less none", t, t.less(f, h, P), new int[][] {{ONE, 1, 10}});
    isSum("less the least long", t, t.less(f, h, Long.MIN_VALUE),
        new int[][] {{ONE, 1, 10}, {E, 0, (int) -Math.floorMod(Long.MIN_VALUE, (long) P)}});
    isSum("less the greatest long", t, t.less(f, h, Long.MAX_VALUE),
        new int[][] {{ONE, 1, 10}, {E, 0, (int) -(Long.MAX_VALUE % P)}});
    due("less itself", t.terms(t.less(f, f, 1), -1), 0);
    refused("less no f", t, INDEX, () -> t.less(t.count(), 0, 1));
    refused("less no g", t, INDEX, () -> t.less(0, -1, 1));
  }

  private static void times() {
    TowerIntegrals t = new TowerIntegrals();
    int f = sum(t, new int[][] {{ONE, 1, 2}, {E, 0, 3}});
    int g = sum(t, new int[][] {{ONE, -2, 5}, {E_UNDER, 1, 7}});
    isSum("times of exponentials", t, t.times(f, g),
        new int[][] {{ONE, -1, 10}, {E_UNDER, 2, 14}, {E, -2, 15}, {ONE, 1, 21}});
    int h = sum(t, new int[][] {{ONE, 0, 1}, {L, 1, 1}});
    int hh = t.times(h, h);
    isSum("times of logs", t, hh, new int[][] {{ONE, 0, 1}, {L, 1, 2}, {LL, 2, 1}});
    isSum("times up to L L L", t, t.times(h, hh),
        new int[][] {{ONE, 0, 1}, {L, 1, 3}, {LL, 2, 3}, {LLL, 3, 1}});
    isSum("times E E and 1 / (E E)", t, t.times(t.term(EE, 4, 2), t.term(EE_UNDER, -4, 3)),
        new int[][] {{ONE, 0, 6}});
    isSum("times E E", t, t.times(t.term(E, 2, -1), t.term(E, 2, -1)), new int[][] {{EE, 4, 1}});
    isSum("times 1 / E twice", t, t.times(t.term(E_UNDER, 0, 4), t.term(E_UNDER, 0, 4)),
        new int[][] {{EE_UNDER, 0, 16}});
    isSum("times E E and 1 / E", t, t.times(t.term(EE, 0, 1), t.term(E_UNDER, 0, 1)),
        new int[][] {{E, 0, 1}});
  }

  private static void timesTooFar() {
    TowerIntegrals t = new TowerIntegrals();
    int x3 = t.term(ONE, 3, 1);
    int x2 = t.term(E, 2, 1);
    int under3 = t.term(ONE, -3, 1);
    int under2 = t.term(E, -2, 1);
    int l2 = t.term(LL, 0, 1);
    int e2 = t.term(EE, 0, 1);
    int e = t.term(E, 0, 1);
    int under = t.term(EE_UNDER, 0, 1);
    refused("times x^5", t, STATE, () -> t.times(x3, x2));
    refused("times 1 / x^5", t, STATE, () -> t.times(under3, under2));
    refused("times L^4", t, STATE, () -> t.times(l2, l2));
    refused("times E^3", t, STATE, () -> t.times(e2, e));
    refused("times 1 / E^4", t, STATE, () -> t.times(under, under));
    refused("times L and E", t, STATE, () -> t.times(l2, e));
    refused("times E and L", t, STATE, () -> t.times(e, l2));
    int plus = sum(t, new int[][] {{L, 0, 1}, {E, 0, 1}});
    int minus = sum(t, new int[][] {{L, 0, 1}, {E, 0, -1}});
    refused("times (L + E)(L - E), where L E falls out", t, STATE, () -> t.times(plus, minus));
    int nothing = t.term(E, 0, 0);
    due("times L and nothing", t.terms(t.times(l2, nothing), -1), 0);
    isSum("times L + E and x", t, t.times(plus, t.term(ONE, 1, 1)), new int[][] {{L, 1, 1}, {E, 1, 1}});
    refused("times no f", t, INDEX, () -> t.times(-1, 0));
    refused("times no g", t, INDEX, () -> t.times(0, t.count()));
  }

  private static void derive() {
    TowerIntegrals t = new TowerIntegrals();
    isSum("derive x^4 LLL", t, t.derive(t.term(LLL, 4, 2)), new int[][] {{LLL, 3, 8}, {LL, 3, 6}});
    isSum("derive L", t, t.derive(t.term(L, 0, 1)), new int[][] {{ONE, -1, 1}});
    isSum("derive 1", t, t.derive(t.term(ONE, 0, 1)), new int[][] {});
    isSum("derive x^4 / (E E)", t, t.derive(t.term(EE_UNDER, 4, 1)),
        new int[][] {{EE_UNDER, 3, 4}, {EE_UNDER, 4, -2}});
    isSum("derive E / x^3", t, t.derive(t.term(E, -3, 1)), new int[][] {{E, -4, -3}, {E, -3, 1}});
    isSum("derive x / E", t, t.derive(t.term(E_UNDER, 1, 1)),
        new int[][] {{E_UNDER, 0, 1}, {E_UNDER, 1, -1}});
    isSum("derive E E", t, t.derive(t.term(EE, 0, 1)), new int[][] {{EE, 0, 2}});
    isSum("derive L L / x^3", t, t.derive(t.term(LL, -3, 1)), new int[][] {{LL, -4, -3}, {L, -4, 2}});
    for (int kind = 0; kind < 8; kind++) {
      int f = t.term(kind, -4, 1);
      refused("derive x^-4 of kind " + kind, t, STATE, () -> t.derive(f));
    }
    due("derive nothing", t.terms(t.derive(t.term(ONE, -4, 0)), -1), 0);
    refused("derive no f", t, INDEX, () -> t.derive(t.count()));
  }

  private static void integrateLogs() {
    TowerIntegrals t = new TowerIntegrals();
    isSum("integrate 4 x^3", t, t.integrate(t.term(ONE, 3, 4)), new int[][] {{ONE, 4, 1}});
    isSum("integrate 1 / x", t, t.integrate(t.term(ONE, -1, 1)), new int[][] {{L, 0, 1}});
    isSum("integrate LL / x", t, t.integrate(t.term(LL, -1, 6)), new int[][] {{LLL, 0, 2}});
    isSum("integrate L / x", t, t.integrate(t.term(L, -1, 1)), new int[][] {{LL, 0, over(1, 2)}});
    isSum("integrate L", t, t.integrate(t.term(L, 0, 1)), new int[][] {{L, 1, 1}, {ONE, 1, -1}});
    isSum("integrate x LL", t, t.integrate(t.term(LL, 1, 4)),
        new int[][] {{LL, 2, 2}, {L, 2, -2}, {ONE, 2, 1}});
    isSum("integrate L / x^4", t, t.integrate(t.term(L, -4, 9)), new int[][] {{L, -3, -3}, {ONE, -3, -1}});
    isSum("integrate nothing", t, t.integrate(t.term(ONE, 0, 0)), new int[][] {});
    isSum("integrate the slope of 7 + x", t,
        t.integrate(t.derive(sum(t, new int[][] {{ONE, 0, 7}, {ONE, 1, 1}}))), new int[][] {{ONE, 1, 1}});
  }

  private static void integrateExponentials() {
    TowerIntegrals t = new TowerIntegrals();
    isSum("integrate x^4 E", t, t.integrate(t.term(E, 4, 1)),
        new int[][] {{E, 4, 1}, {E, 3, -4}, {E, 2, 12}, {E, 1, -24}, {E, 0, 24}});
    isSum("integrate x / E", t, t.integrate(t.term(E_UNDER, 1, 1)),
        new int[][] {{E_UNDER, 1, -1}, {E_UNDER, 0, -1}});
    isSum("integrate E E", t, t.integrate(t.term(EE, 0, 2)), new int[][] {{EE, 0, 1}});
    isSum("integrate x / (E E)", t, t.integrate(t.term(EE_UNDER, 1, 4)),
        new int[][] {{EE_UNDER, 1, -2}, {EE_UNDER, 0, -1}});
    for (int kind = 4; kind < 8; kind++) {
      int f = sum(t, new int[][] {{kind, -3, 5}, {kind, -1, 2}, {kind, 0, 9}});
      due("integrate a slope of kind " + kind, t.same(t.integrate(t.derive(f)), f), true);
    }
    int before = t.count();
    int under = t.term(E, -1, 1);
    due("integrate E / x", t.integrate(under), -1);
    due("integrate E / x makes nothing", t.count(), before + 1);
    due("integrate E / x^4", t.integrate(t.term(E, -4, 6)), -1);
    refused("integrate no f", t, INDEX, () -> t.integrate(-1));
  }

  private static void integrateTooFar() {
    TowerIntegrals t = new TowerIntegrals();
    for (int kind = 0; kind < 4; kind++) {
      int f = t.term(kind, 4, 1);
      refused("integrate x^4 of kind " + kind, t, STATE, () -> t.integrate(f));
    }
    int l4 = t.term(LLL, -1, 1);
    refused("integrate LLL / x", t, STATE, () -> t.integrate(l4));
    int both = t.add(l4, t.term(EE, -1, 1));
    due("integrate with a rest, too far", t.integrate(both), -1);
    int farOnly = t.add(l4, t.term(EE, 4, 1));
    refused("integrate too far beside an exponential", t, STATE, () -> t.integrate(farOnly));
  }

  private static void rest() {
    TowerIntegrals t = new TowerIntegrals();
    int[] powers = {0, 0, 0, 0, -2, -1, 1, 2};
    for (int kind = 4; kind < 8; kind++) {
      int i = powers[kind];
      due("rest at -1", t.rest(t.term(kind, -1, 9), kind), 9);
      due("rest at -2", t.rest(t.term(kind, -2, 1), kind), Math.floorMod(i, P));
      due("rest at -3", t.rest(t.term(kind, -3, 2), kind), i * i);
      due("rest at -4", t.rest(t.term(kind, -4, 6), kind), Math.floorMod(i * i * i, P));
      due("rest at 0", t.rest(t.term(kind, 0, 6), kind), 0);
      due("rest at 4", t.rest(t.term(kind, 4, 6), kind), 0);
    }
    int mixed = sum(t, new int[][] {{EE, -1, -4}, {EE, -2, 2}, {E, -1, 3}, {L, -1, 5}, {ONE, -1, 5}});
    due("rest that falls out", t.rest(mixed, EE), 0);
    due("rest of its own kind", t.rest(mixed, E), 3);
    due("rest of another kind", t.rest(mixed, E_UNDER), 0);
    for (int kind = 0; kind < 4; kind++) {
      due("rest of kind " + kind, t.rest(mixed, kind), 0);
    }
    refused("rest kind -1", t, ARGUMENT, () -> t.rest(0, -1));
    refused("rest kind 8", t, ARGUMENT, () -> t.rest(0, 8));
    refused("rest no f", t, INDEX, () -> t.rest(t.count(), 0));
  }

  private static void at() {
    TowerIntegrals t = new TowerIntegrals();
    int f = sum(t, new int[][] {{E, -4, -1}, {LLL, 4, 8}});
    due("at -4", t.at(f, E, -4), P - 1);
    due("at 4", t.at(f, LLL, 4), 8);
    due("at none", t.at(f, LLL, 3), 0);
    for (int n : new int[] {-5, 5, Integer.MIN_VALUE, Integer.MAX_VALUE}) {
      refused("at n " + n, t, ARGUMENT, () -> t.at(f, 0, n));
    }
    for (int kind : new int[] {-1, 8, Integer.MIN_VALUE, Integer.MAX_VALUE}) {
      refused("at kind " + kind, t, ARGUMENT, () -> t.at(f, kind, 0));
    }
    for (int handle : new int[] {-1, t.count(), Integer.MIN_VALUE, Integer.MAX_VALUE}) {
      refused("at handle " + handle, t, INDEX, () -> t.at(handle, 0, 0));
    }
  }

  private static void terms() {
    TowerIntegrals t = new TowerIntegrals();
    int f = sum(t, new int[][] {{E, -4, 1}, {E, 4, 1}, {E, 0, 0}, {ONE, 0, 2}, {EE, 3, 1}});
    due("terms of E", t.terms(f, E), 2);
    due("terms of 1", t.terms(f, ONE), 1);
    due("terms of L", t.terms(f, L), 0);
    due("terms of all", t.terms(f, -1), 4);
    refused("terms kind -2", t, ARGUMENT, () -> t.terms(f, -2));
    refused("terms kind 8", t, ARGUMENT, () -> t.terms(f, 8));
    refused("terms no f", t, INDEX, () -> t.terms(-1, -1));
  }

  private static void degree() {
    TowerIntegrals t = new TowerIntegrals();
    int f = sum(t, new int[][] {{E, -4, 1}, {E, -2, 1}, {ONE, 4, 2}, {L, -4, 1}});
    due("degree of E", t.degree(f, E), -2);
    due("degree of 1", t.degree(f, ONE), 4);
    due("degree of L", t.degree(f, L), -4);
    due("degree of none", t.degree(f, EE), -5);
    refused("degree kind -1", t, ARGUMENT, () -> t.degree(f, -1));
    refused("degree kind 8", t, ARGUMENT, () -> t.degree(f, 8));
    refused("degree no f", t, INDEX, () -> t.degree(t.count(), 0));
  }

  private static void value() {
    TowerIntegrals t = new TowerIntegrals();
    int f = sum(t, new int[][] {{ONE, 2, 3}, {LLL, 1, 1}, {EE, 0, 2}});
    due("value", t.value(f, 2, 3, 5), 3 * 4 + 2 * 27 + 2 * 25);
    due("value of numbers past the modulus", t.value(f, 2L - P, 3L + P, 5L - 7L * P), 3 * 4 + 2 * 27 + 2 * 25);
    due("value of long ones", t.value(t.term(LL, 0, 1), 1, Long.MIN_VALUE, 1),
        (int) (square(Math.floorMod(Long.MIN_VALUE, (long) P)) % P));
    int g = sum(t, new int[][] {{ONE, -3, 1}, {E_UNDER, 1, 1}, {EE_UNDER, 0, 1}});
    due("value with quotients", t.value(g, 2, 0, 5), (over(1, 8) + over(2, 5) + over(1, 25)) % P);
    due("value at x 0", t.value(g, 0, 1, 1), -1);
    due("value at x the modulus", t.value(g, P, 1, 1), -1);
    due("value at E 0", t.value(g, 1, 1, 0), -1);
    due("value at E minus the modulus", t.value(g, 1, 1, -P), -1);
    int h = sum(t, new int[][] {{ONE, 0, 4}, {E, 1, 1}, {EE, 2, 1}, {LL, 0, 1}});
    due("value at 0 where nothing is divided", t.value(h, 0, 3, 0), 13);
    due("value of L / x at x 0 and L 0", t.value(t.term(L, -1, 1), 0, 0, 1), -1);
    due("value of E / x at x 0 and E 0", t.value(t.term(E, -1, 1), 0, 1, 0), -1);
    due("value of x / E at x 0 and E 0", t.value(t.term(E_UNDER, 1, 1), 0, 1, 0), -1);
    due("value of x / E at x 0", t.value(t.term(E_UNDER, 1, 1), 0, 1, 1), 0);
    due("value of 1 / x at E 0", t.value(t.term(ONE, -1, 1), 1, 0, 0), 1);
    due("value of a 0 of 1 / E at 0", t.value(t.term(E_UNDER, -1, 0), 0, 0, 0), 0);
    refused("value no f", t, INDEX, () -> t.value(t.count(), 1, 1, 1));
    refused("value f -1", t, INDEX, () -> t.value(-1, 0, 0, 0));
  }

  private static long square(long a) {
    return a * a;
  }

  private static void same() {
    TowerIntegrals t = new TowerIntegrals();
    int f = t.term(E, -4, 3);
    due("same itself", t.same(f, f), true);
    due("same modulo 32003", t.same(f, t.term(E, -4, 3 - P)), true);
    due("same other number", t.same(f, t.term(E, -4, 4)), false);
    due("same other n", t.same(f, t.term(E, 4, 3)), false);
    due("same other kind", t.same(f, t.term(EE, -4, 3)), false);
    due("same nothing", t.same(t.term(ONE, 0, 0), t.term(EE, 4, 0)), true);
    due("same but for the last", t.same(t.term(EE, 4, 1), t.term(EE, 4, 0)), false);
    refused("same no f", t, INDEX, () -> t.same(-1, 0));
    refused("same no g", t, INDEX, () -> t.same(0, t.count()));
  }

  private static void count() {
    TowerIntegrals t = new TowerIntegrals();
    for (int made = 0; made < 60; made++) {
      due("count", t.count(), made);
      due("count's handle", t.term(0, 0, made), made);
    }
    due("count of all", t.count(), 60);
  }

  private static void orderOfExceptions() {
    TowerIntegrals t = new TowerIntegrals();
    refused("rest no f, no kind", t, INDEX, () -> t.rest(0, 9));
    refused("at no f, no kind", t, INDEX, () -> t.at(0, 9, 9));
    refused("terms no f, no kind", t, INDEX, () -> t.terms(0, 9));
    refused("degree no f, no kind", t, INDEX, () -> t.degree(0, 9));
    refused("integrate no f", t, INDEX, () -> t.integrate(0));
  }

  private static void full() {
    TowerIntegrals t = new TowerIntegrals();
    t.term(E, -1, 1);
    t.term(ONE, 0, 1);
    while (t.count() < 60) {
      t.term(L, 1, t.count());
    }
    refused("full term", t, STATE, () -> t.term(0, 0, 1));
    refused("full term no kind", t, ARGUMENT, () -> t.term(8, 0, 1));
    refused("full term no n", t, ARGUMENT, () -> t.term(0, 5, 1));
    refused("full add", t, STATE, () -> t.add(0, 1));
    refused("full add no g", t, INDEX, () -> t.add(0, 60));
    refused("full less", t, STATE, () -> t.less(0, 1, 1));
    refused("full less no f", t, INDEX, () -> t.less(60, 1, 1));
    refused("full times", t, STATE, () -> t.times(1, 1));
    refused("full times no f", t, INDEX, () -> t.times(-1, 1));
    refused("full derive", t, STATE, () -> t.derive(1));
    refused("full derive no f", t, INDEX, () -> t.derive(60));
    refused("full integrate", t, STATE, () -> t.integrate(1));
    refused("full integrate with a rest", t, STATE, () -> t.integrate(0));
    refused("full integrate no f", t, INDEX, () -> t.integrate(60));
    due("full at", t.at(59, L, 1), 59);
    due("full value", t.value(59, 1, 1, 1), 59);
    due("full same", t.same(0, 0), true);
  }
}
