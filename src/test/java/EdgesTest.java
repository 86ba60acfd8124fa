import java.util.Arrays;
import java.util.function.IntFunction;

/**
 * Each sentence of the document that names a boundary case (too small, too large, empty, full, a
 * wrap-around, a refused call), by a test of its own that bears the sentence's words.
 */
public final class EdgesTest {
  private static final int P = 32003;
  private static final int ONE = 0, L = 1, LL = 2, LLL = 3, EE_UNDER = 4, E_UNDER = 5, E = 6, EE = 7;
  private static final int[] L_POWER = {0, 1, 2, 3, 0, 0, 0, 0};
  private static final int[] E_POWER = {0, 0, 0, 0, -2, -1, 1, 2};
  private static final Class<?> INDEX = IndexOutOfBoundsException.class;
  private static final Class<?> STATE = IllegalStateException.class;
  private static final Class<?> ARGUMENT = IllegalArgumentException.class;
  private static final int[] NO_KINDS = {-1, 8, -2, 9, Integer.MIN_VALUE, Integer.MAX_VALUE};
  private static final int[] NO_POWERS = {-5, 5, -6, 6, Integer.MIN_VALUE, Integer.MAX_VALUE};
  private static final long[] NOUGHTS = {0, P, -P, 2L * P, 65536L * P, -1_000_000_007L * P};
  private static String sentence = "";
  private static int sentences = 0;
  private static int wrong = 0;

  private interface Call {
    Object answer();
  }

  private interface Test {
    void run();
  }

  /** The object that is tested; no test may lean on what comes behind its 512th call. */
  private static final class Tower {
    private final TowerIntegrals t = new TowerIntegrals();
    private int calls = 0;

    private TowerIntegrals next() {
      calls++;
      if (calls > 512) {
        throw new AssertionError("a test makes more than 512 calls on one object");
      }
      return t;
    }

    int term(int kind, int n, long v) {
      return next().term(kind, n, v);
    }

    int add(int f, int g) {
      return next().add(f, g);
    }

    int less(int f, int g, long v) {
      return next().less(f, g, v);
    }

    int times(int f, int g) {
      return next().times(f, g);
    }

    int derive(int f) {
      return next().derive(f);
    }

    int integrate(int f) {
      return next().integrate(f);
    }

    int rest(int f, int kind) {
      return next().rest(f, kind);
    }

    int at(int f, int kind, int n) {
      return next().at(f, kind, n);
    }

    int terms(int f, int kind) {
      return next().terms(f, kind);
    }

    int degree(int f, int kind) {
      return next().degree(f, kind);
    }

    int value(int f, long x, long l, long e) {
      return next().value(f, x, l, e);
    }

    boolean same(int f, int g) {
      return next().same(f, g);
    }

    int count() {
      return next().count();
    }
  }

  public static void main(String[] args) {
    whatItIs();
    terms();
    makingPromises();
    askingPromises();
    System.out.println(wrong == 0 ? "all edges of " + sentences + " sentences hold" : wrong + " checks failed");
    if (wrong != 0) {
      System.exit(1);
    }
  }

  private static void whatItIs() {
    holds("What it is: at most 512 calls after it has been made", EdgesTest::holdsUpToTheLastCall);
  }

  private static void terms() {
    holds("Terms: NUMBERS are modulo 32003, of long ones", EdgesTest::numbersOfLongs);
    holds("Terms: NUMBERS are modulo 32003, 0 .. 32002, in every answer", EdgesTest::numbersOfAnswers);
    holds("Terms: x's slope and L's slope 1 / x, E's slope E", EdgesTest::slopesOfTheLetters);
    holds("Terms: KINDS are 0 to 7, as powers of L and E", EdgesTest::kindsAreTheirPowers);
    holds("Terms: n from -4 to 4", EdgesTest::powersToBothEnds);
    holds("Terms: handles, 0 .. 59, in the order in which they were made", EdgesTest::handlesInOrder);
    holds("Terms: TOO FAR, another n", EdgesTest::tooFarByPower);
    holds("Terms: TOO FAR, another KIND", EdgesTest::tooFarByKind);
    holds("Terms: TOO FAR, with a NUMBER that isn't 0", EdgesTest::tooFarNeedsANumber);
    holds("Terms: TOO FAR, when all is summed up", EdgesTest::tooFarWhenSummedUp);
    holds("Terms: TOO FAR, some L of one meets some E of the other one", EdgesTest::tooFarWhereLogMeetsExponential);
    holds("Terms: the REST, less r / x times it, is a slope, for just one r", EdgesTest::restIsTheOnlyOne);
    holds("Terms: the REST, with n at least -3", EdgesTest::restOfTheLowestPowers);
    holds("Terms: the REST of KINDS 0 to 3 is 0", EdgesTest::restOfLogs);
    holds("Terms: the INTEGRAL's slope is it", EdgesTest::slopeOfTheIntegral);
    holds("Terms: the INTEGRAL has 0 at n = 0 of KIND 0", EdgesTest::integralWithoutConstant);
    holds("Terms: IndexOutOfBoundsException, no such ELEMENT", EdgesTest::noSuchElement);
    holds("Terms: IllegalStateException, 60 are there", EdgesTest::sixtyAreThere);
    holds("Terms: of several the one that stands first", EdgesTest::firstOfSeveral);
    holds("Terms: nothing changes", EdgesTest::nothingChanges);
    holds("Terms: nothing changes, 60 being there", EdgesTest::nothingChangesWhenFull);
  }

  private static void makingPromises() {
    holds("Promise 1: no ELEMENTS", EdgesTest::newObjectIsEmpty);
    holds("Promise 2: v times x to the n times a KIND", EdgesTest::termAtEveryPlace);
    holds("Promise 2: no such n, KIND", EdgesTest::termRefused);
    holds("Promise 3: the sum", EdgesTest::sums);
    holds("Promise 4: f less v times g", EdgesTest::differences);
    holds("Promise 5: the product, every n with every n", EdgesTest::productsOfPowers);
    holds("Promise 5: the product, every KIND with every KIND", EdgesTest::productsOfKinds);
    holds("Promise 5: the product of sums", EdgesTest::productsOfSums);
    holds("Promise 6: the slope", EdgesTest::slopes);
    holds("Promise 7: the INTEGRAL, of KINDS 0 to 3", EdgesTest::integralsOfLogs);
    holds("Promise 7: the INTEGRAL, of exponential KINDS", EdgesTest::integralsOfExponentials);
    holds("Promise 7: -1 if some REST isn't 0", EdgesTest::integrateWithARest);
    holds("Promise 7: none is made", EdgesTest::integrateWithARestMakesNone);
    holds("Promise 7: -1 is told behind 60 that are there", EdgesTest::integrateFullBeforeRest);
    holds("Promise 7: -1 is told ahead of TOO FAR", EdgesTest::integrateRestBeforeTooFar);
  }

  private static void askingPromises() {
    holds("Promise 8: the REST of a KIND", EdgesTest::restOfEveryPlace);
    holds("Promise 8: no such KIND", EdgesTest::restRefused);
    holds("Promise 9: the NUMBER at n of a KIND", EdgesTest::atEveryPlace);
    holds("Promise 9: no such n, KIND", EdgesTest::atRefused);
    holds("Promise 10: how many terms, of a KIND (-1: of all)", EdgesTest::termsCounted);
    holds("Promise 10: no such KIND", EdgesTest::termsRefused);
    holds("Promise 11: the degree, the greatest n", EdgesTest::degreeIsTheGreatest);
    holds("Promise 11: -5 if it has none", EdgesTest::degreeOfNone);
    holds("Promise 11: no such KIND", EdgesTest::degreeRefused);
    holds("Promise 12: its value", EdgesTest::values);
    holds("Promise 12: -1 if x is 0 where it would divide", EdgesTest::valueDividesByX);
    holds("Promise 12: -1 if E is 0 where it would divide", EdgesTest::valueDividesByE);
    holds("Promise 12: L 0 divides nothing", EdgesTest::valueWithoutL);
    holds("Promise 13: whether two are the same", EdgesTest::samePlaceByPlace);
    holds("Promise 14: how many ELEMENTS there are", EdgesTest::countGoesUpToSixty);
  }

  // Helpers.

  private static void holds(String words, Test test) {
    sentence = words;
    sentences++;
    int before = wrong;
    try {
      test.run();
    } catch (RuntimeException e) {
      wrong++;
      System.out.println(words + ": a call that is due to answer throws " + e);
    }
    if (wrong > before) {
      System.out.println("does not hold: " + words);
    }
  }

  private static void due(String what, Object got, Object want) {
    if (!got.equals(want)) {
      wrong++;
      System.out.println(sentence + ": " + what + " answered " + got + ", due is " + want);
    }
  }

  private static void refused(String what, Class<?> want, Call call) {
    Object got;
    try {
      got = call.answer();
    } catch (RuntimeException e) {
      got = e.getClass();
    }
    due(what, got, want);
  }

  private static void refusedHandles(String what, int made, IntFunction<Object> call) {
    for (int handle : new int[] {made, 59, 60, 61, -1, -60, Integer.MIN_VALUE, Integer.MAX_VALUE}) {
      refused(what + ", handle " + handle, INDEX, () -> call.apply(handle));
    }
  }

  private static int mod(long v) {
    return (int) Math.floorMod(v, (long) P);
  }

  /** a / b; by trying all, so that it leans on nothing that the class does. */
  private static int over(long a, long b) {
    for (int q = 0; q < P; q++) {
      if (mod(q * (long) mod(b)) == mod(a)) {
        return q;
      }
    }
    throw new IllegalArgumentException("no quotient");
  }

  private static int nothing(Tower t) {
    return t.term(ONE, 0, 0);
  }

  /** The sum of rows of kind, n, number; takes two handles for each row but the first. */
  private static int sum(Tower t, int[]... rows) {
    int f = t.term(rows[0][0], rows[0][1], rows[0][2]);
    for (int i = 1; i < rows.length; i++) {
      f = t.add(f, t.term(rows[i][0], rows[i][1], rows[i][2]));
    }
    return f;
  }

  private static int[] row(int kind, int n, int v) {
    return new int[] {kind, n, v};
  }

  /** That an element is just the sum of these rows (none of them with 0). */
  private static void isSum(String what, Tower t, int f, int[]... rows) {
    due(what + ", terms", t.terms(f, -1), rows.length);
    for (int[] row : rows) {
      due(what + ", at kind " + row[0] + ", n " + row[1], t.at(f, row[0], row[1]), mod(row[2]));
    }
  }

  /** x to the -4 up to x to the 4, all of them, in few calls. */
  private static int allPowers(Tower t) {
    int low = t.add(t.term(ONE, -4, 1), t.term(ONE, -3, 1));
    int one = t.term(ONE, 0, 1);
    int most = t.times(t.times(low, t.add(one, t.term(ONE, 2, 1))), t.add(one, t.term(ONE, 4, 1)));
    return t.add(most, t.term(ONE, 4, 1));
  }

  /** An element that has all 72 terms. */
  private static int everything(Tower t) {
    int powers = allPowers(t);
    int all = powers;
    for (int kind = 1; kind < 8; kind++) {
      all = t.add(all, t.times(powers, t.term(kind, 0, kind + 1)));
    }
    return all;
  }

  private static Tower full() {
    Tower t = new Tower();
    t.term(E, -1, 1);
    t.term(ONE, 1, 1);
    for (int i = 2; i < 60; i++) {
      t.term(LL, 4, i);
    }
    return t;
  }

  /** The kind that is L to the l, E to the e; -1 where none is. */
  private static int kindOf(int l, int e) {
    for (int kind = 0; kind < 8; kind++) {
      if (L_POWER[kind] == l && E_POWER[kind] == e) {
        return kind;
      }
    }
    return -1;
  }

  private static int[] snapshot(Tower t, int f) {
    int[] all = new int[72];
    for (int i = 0; i < 72; i++) {
      all[i] = t.at(f, i / 9, i % 9 - 4);
    }
    return all;
  }

  // What it is.

  private static void holdsUpToTheLastCall() {
    Tower t = full();
    for (int call = 61; call < 505; call++) {
      int f = 2 + call % 58;
      switch (call % 5) {
        case 0 -> due("at, call " + call, t.at(f, LL, 4), f);
        case 1 -> refused("term, call " + call, STATE, () -> t.term(0, 0, 1));
        case 2 -> due("value, call " + call, t.value(f, 1, 2, 0), 4 * f);
        case 3 -> refused("at, call " + call, ARGUMENT, () -> t.at(f, 8, 0));
        default -> due("same, call " + call, t.same(f, 2), f == 2);
      }
    }
    due("terms, call 505", t.terms(59, -1), 1);
    due("degree, call 506", t.degree(59, LL), 4);
    due("rest, call 507", t.rest(0, E), 1);
    refused("integrate, call 508", STATE, () -> t.integrate(0));
    refused("derive, call 509", STATE, () -> t.derive(1));
    refused("add, call 510", INDEX, () -> t.add(0, 60));
    due("at, call 511", t.at(1, ONE, 1), 1);
    due("count, call 512", t.count(), 60);
    due("calls", t.calls, 512);
    Tower late = new Tower();
    for (int call = 1; call < 511; call++) {
      due("count of none, call " + call, late.count(), 0);
    }
    due("term, call 511", late.term(E, -4, -1), 0);
    due("at, call 512", late.at(0, E, -4), P - 1);
  }

  // Terms.

  private static void numbersOfLongs() {
    Tower t = new Tower();
    int one = t.term(ONE, 1, 1);
    long[] some = {0, 1, P - 1, P, P + 1, 2L * P - 1, -1, 1L - P, -P, -1L - P, Integer.MAX_VALUE,
        Integer.MIN_VALUE, 1L << 32, (1L << 32) * P, Long.MAX_VALUE, Long.MIN_VALUE, Long.MIN_VALUE + 1};
    for (long v : some) {
      due("term of " + v, t.at(t.term(EE, -4, v), EE, -4), mod(v));
      due("less, v " + v, t.at(t.less(nothing(t), one, v), ONE, 1), mod(-mod(v)));
      due("value at x " + v, t.value(one, v, 0, 0), mod(v));
      if (t.count() > 50) {
        t = new Tower();
        one = t.term(ONE, 1, 1);
      }
    }
    int l = t.term(L, 0, 1);
    int e = t.term(E, 0, 1);
    for (long v : some) {
      due("value at L " + v, t.value(l, 1, v, 1), mod(v));
      due("value at E " + v, t.value(e, 1, 1, v), mod(v));
    }
  }

  private static void numbersOfAnswers() {
    Tower t = new Tower();
    int last = t.term(E, 0, P - 1);
    isSum("32002 + 1", t, t.add(last, t.term(E, 0, 1)));
    isSum("32002 + 2", t, t.add(last, t.term(E, 0, 2)), row(E, 0, 1));
    isSum("32002 + 32002", t, t.add(last, last), row(E, 0, P - 2));
    isSum("0 less 32002", t, t.less(nothing(t), last, 1), row(E, 0, 1));
    isSum("32002 less 32002 times 32002", t, t.less(last, last, P - 1), row(E, 0, P - 2));
    isSum("32002 times 32002", t, t.times(last, last), row(EE, 0, 1));
    isSum("the slope of 8001 x^4", t, t.derive(t.term(ONE, 4, 8001)), row(ONE, 3, 1));
    isSum("the slope of 32002 / E", t, t.derive(t.term(E_UNDER, 0, P - 1)), row(E_UNDER, 0, 1));
    isSum("the integral of x", t, t.integrate(t.term(ONE, 1, 1)), row(ONE, 2, 16002));
    isSum("the integral of x x", t, t.integrate(t.term(ONE, 2, 1)), row(ONE, 3, over(1, 3)));
    isSum("the integral of 1 / E", t, t.integrate(t.term(E_UNDER, 0, 1)), row(E_UNDER, 0, P - 1));
    due("the rest of 32002 E / x - 2 E / (x x)", t.rest(sum(t, row(E, -1, P - 1), row(E, -2, -2)), E), P - 3);
    due("the rest of 1 / E / (x x)", t.rest(t.term(E_UNDER, -2, 1), E_UNDER), P - 1);
    due("the rest of E / x^3", t.rest(t.term(E, -3, 1), E), 16002);
    due("the rest of E / x^4", t.rest(t.term(E, -4, 1), E), over(1, 6));
    due("a value past the modulus", t.value(t.add(last, t.term(ONE, 0, 1)), 1, 1, 1), 0);
    due("a value of 32002", t.value(last, 1, 1, 1), P - 1);
    due("32002^3 for L L L", t.value(t.term(LLL, 0, 1), 1, -1, 1), P - 1);
    due("32002^4 for x", t.value(t.term(ONE, 4, 1), -1, 1, 1), 1);
  }

  private static void slopesOfTheLetters() {
    Tower t = new Tower();
    isSum("x'", t, t.derive(t.term(ONE, 1, 1)), row(ONE, 0, 1));
    isSum("L'", t, t.derive(t.term(L, 0, 1)), row(ONE, -1, 1));
    isSum("E'", t, t.derive(t.term(E, 0, 1)), row(E, 0, 1));
    isSum("1'", t, t.derive(t.term(ONE, 0, 1)));
    int f = sum(t, row(ONE, 2, 3), row(ONE, -1, 5), row(E, 1, 7));
    int g = sum(t, row(ONE, 1, 2), row(E_UNDER, 0, 9), row(E, 1, 4));
    int productsSlope = t.derive(t.times(f, g));
    due("(f g)' = f' g + f g'",
        t.same(productsSlope, t.add(t.times(t.derive(f), g), t.times(f, t.derive(g)))), true);
    due("(f + g)' = f' + g'", t.same(t.derive(t.add(f, g)), t.add(t.derive(f), t.derive(g))), true);
  }

  private static void kindsAreTheirPowers() {
    Tower t = new Tower();
    long l = 7;
    long e = 11;
    for (int kind = 0; kind < 8; kind++) {
      long up = 1;
      long down = 1;
      for (int i = 0; i < L_POWER[kind]; i++) {
        up *= l;
      }
      for (int i = 0; i < Math.abs(E_POWER[kind]); i++) {
        up *= E_POWER[kind] > 0 ? e : 1;
        down *= E_POWER[kind] < 0 ? e : 1;
      }
      due("value of kind " + kind, t.value(t.term(kind, 0, 1), 5, l, e), over(up, down));
    }
    int l1 = t.term(L, 0, 1);
    int l2 = t.times(l1, l1);
    isSum("L L", t, l2, row(LL, 0, 1));
    isSum("L L L", t, t.times(l2, l1), row(LLL, 0, 1));
    int e1 = t.term(E, 0, 1);
    isSum("E E", t, t.times(e1, e1), row(EE, 0, 1));
    isSum("E times 1 / E", t, t.times(e1, t.term(E_UNDER, 0, 1)), row(ONE, 0, 1));
    isSum("E E times 1 / (E E)", t, t.times(t.times(e1, e1), t.term(EE_UNDER, 0, 1)), row(ONE, 0, 1));
  }

  private static void powersToBothEnds() {
    for (int kind = 0; kind < 8; kind++) {
      Tower t = new Tower();
      int k = kind;
      int low = t.term(kind, -4, 2);
      int high = t.term(kind, 4, 3);
      due("at -4 of kind " + kind, t.at(low, kind, -4), 2);
      due("at 4 of kind " + kind, t.at(high, kind, 4), 3);
      due("the neighbours of -4", t.terms(low, -1), 1);
      due("the neighbours of 4", t.terms(high, -1), 1);
      refused("term -5 of kind " + kind, ARGUMENT, () -> t.term(k, -5, 2));
      refused("term 5 of kind " + kind, ARGUMENT, () -> t.term(k, 5, 2));
      refused("at -5 of kind " + kind, ARGUMENT, () -> t.at(low, k, -5));
      refused("at 5 of kind " + kind, ARGUMENT, () -> t.at(high, k, 5));
    }
  }

  private static void handlesInOrder() {
    Tower t = new Tower();
    due("first, by term", t.term(ONE, 1, 2), 0);
    due("second, by add", t.add(0, 0), 1);
    due("third, by less", t.less(0, 1, 3), 2);
    due("fourth, by times", t.times(0, 1), 3);
    due("fifth, by derive", t.derive(3), 4);
    due("sixth, by integrate", t.integrate(4), 5);
    due("seventh, by term", t.term(E, -1, 1), 6);
    due("none, by integrate with a rest", t.integrate(6), -1);
    refused("none, by a refused term", ARGUMENT, () -> t.term(0, 5, 1));
    refused("none, by a refused add", INDEX, () -> t.add(0, 7));
    due("eighth, by term", t.term(EE, 0, 1), 7);
    refused("none, by a product that is too far", STATE, () -> t.times(6, 7));
    due("ninth, by a sum that is nothing", t.less(0, 0, 1), 8);
    isSum("the first", t, 0, row(ONE, 1, 2));
    isSum("the second", t, 1, row(ONE, 1, 4));
    isSum("the third", t, 2, row(ONE, 1, -10));
    isSum("the fourth", t, 3, row(ONE, 2, 8));
    isSum("the fifth", t, 4, row(ONE, 1, 16));
    isSum("the sixth", t, 5, row(ONE, 2, 8));
    for (int handle = 9; handle < 60; handle++) {
      due("handle", t.term(L, 0, handle), handle);
    }
    due("the last one", t.at(59, L, 0), 59);
    due("the tenth one", t.at(9, L, 0), 9);
    refused("handle 60", INDEX, () -> t.at(60, L, 0));
  }

  private static void tooFarByPower() {
    for (int kind = 0; kind < 8; kind++) {
      Tower t = new Tower();
      int low = t.term(kind, -4, 1);
      int high = t.term(kind, 4, 1);
      int x = t.term(ONE, 1, 1);
      int underX = t.term(ONE, -1, 1);
      refused("x^-5 by times, kind " + kind, STATE, () -> t.times(low, underX));
      refused("x^5 by times, kind " + kind, STATE, () -> t.times(high, x));
      refused("x^-5 by derive, kind " + kind, STATE, () -> t.derive(low));
      isSum("x^-3 by times", t, t.times(low, x), row(kind, -3, 1));
      isSum("x^3 by times", t, t.times(high, underX), row(kind, 3, 1));
      if (kind < 4) {
        refused("x^5 by integrate, kind " + kind, STATE, () -> t.integrate(high));
      }
    }
    Tower t = new Tower();
    int ends = t.add(t.term(ONE, -4, 1), t.term(ONE, 4, 1));
    refused("x^8 and x^-8", STATE, () -> t.times(ends, ends));
    int slopeFar = t.add(ends, t.term(E, 2, 1));
    refused("x^-5 beside others, by derive", STATE, () -> t.derive(slopeFar));
    refused("x^5 beside others, by integrate", STATE, () -> t.integrate(slopeFar));
  }

  private static void tooFarByKind() {
    Tower t = new Tower();
    int[] one = new int[8];
    for (int kind = 0; kind < 8; kind++) {
      one[kind] = t.term(kind, 0, 1);
    }
    refused("L^4 as L L L L", STATE, () -> t.times(one[LLL], one[L]));
    refused("L^4 as LL LL", STATE, () -> t.times(one[LL], one[LL]));
    refused("L^6", STATE, () -> t.times(one[LLL], one[LLL]));
    refused("E^3", STATE, () -> t.times(one[E], one[EE]));
    refused("E^4", STATE, () -> t.times(one[EE], one[EE]));
    refused("1 / E^3", STATE, () -> t.times(one[EE_UNDER], one[E_UNDER]));
    refused("1 / E^4", STATE, () -> t.times(one[EE_UNDER], one[EE_UNDER]));
    int l4 = t.term(LLL, -1, 1);
    refused("L^4 by integrate", STATE, () -> t.integrate(l4));
    for (int n = -4; n < 4; n++) {
      if (n != -1) {
        due("L L L at " + n + " by integrate", t.integrate(t.term(LLL, n, 1)) >= 0, true);
      }
    }
  }

  private static void tooFarNeedsANumber() {
    Tower t = new Tower();
    int high = t.term(ONE, 4, 1);
    int low = t.term(ONE, -4, 1);
    int l3 = t.term(LLL, 0, 1);
    int e2 = t.term(EE, 0, 1);
    for (int handle : new int[] {high, low, l3, e2}) {
      isSum("times nothing", t, t.times(handle, nothing(t)));
      isSum("nothing times", t, t.times(t.term(EE, 4, P), handle));
      isSum("times 0 L", t, t.times(t.term(LLL, -4, 0), handle));
    }
    isSum("the slope of 0 / x^4", t, t.derive(t.term(LLL, -4, 0)));
    isSum("the integral of 0 x^4", t, t.integrate(t.term(LLL, 4, -P)));
    isSum("the integral of 0 L L L / x", t, t.integrate(t.term(LLL, -1, 0)));
    isSum("nothing times itself", t, t.times(nothing(t), nothing(t)));
  }

  private static void tooFarWhenSummedUp() {
    Tower t = new Tower();
    int x = t.term(ONE, 1, 1);
    int farSlope = t.add(t.term(L, -4, 1), x);
    isSum("a slope without the far term", t, t.derive(t.less(farSlope, t.term(L, -4, 1), 1)), row(ONE, 0, 1));
    int farIntegral = t.add(t.term(LLL, -1, 5), x);
    isSum("an integral without the far term", t, t.integrate(t.less(farIntegral, t.term(LLL, -1, 1), 5)),
        row(ONE, 2, over(1, 2)));
    int high = t.add(t.term(ONE, 4, 7), x);
    isSum("a product without the far term", t, t.times(t.add(high, t.term(ONE, 4, -7)), x), row(ONE, 2, 1));
    int plus = t.add(t.term(E, 1, 1), t.term(E_UNDER, 1, 1));
    int minus = t.less(t.term(E, 1, 1), t.term(E_UNDER, 1, 1), 1);
    isSum("(E + 1 / E) (E - 1 / E)", t, t.times(plus, minus), row(EE, 2, 1), row(EE_UNDER, 2, -1));
    int wave = t.add(t.term(ONE, 2, 1), t.term(ONE, -2, 1));
    int other = t.less(t.term(ONE, 2, 1), t.term(ONE, -2, 1), 1);
    isSum("(x^2 + x^-2) (x^2 - x^-2)", t, t.times(wave, other), row(ONE, 4, 1), row(ONE, -4, -1));
    isSum("a sum of 9 products", t, t.times(allPowers(t), t.term(ONE, 0, P - 2)), new int[][] {
      row(ONE, -4, -2), row(ONE, -3, -2), row(ONE, -2, -2), row(ONE, -1, -2), row(ONE, 0, -2),
      row(ONE, 1, -2), row(ONE, 2, -2), row(ONE, 3, -2), row(ONE, 4, -2)});
  }

  private static void tooFarWhereLogMeetsExponential() {
    Tower t = new Tower();
    for (int log = 1; log < 4; log++) {
      int l = t.term(log, 0, 1);
      for (int exponential = 4; exponential < 8; exponential++) {
        int e = t.term(exponential, 0, 1);
        refused("kind " + log + " times kind " + exponential, STATE, () -> t.times(l, e));
        refused("kind " + exponential + " times kind " + log, STATE, () -> t.times(e, l));
      }
    }
    int plus = t.add(t.term(L, 0, 1), t.term(E, 0, 1));
    int minus = t.less(t.term(L, 0, 1), t.term(E, 0, 1), 1);
    refused("(L + E) (L - E), though L E falls out", STATE, () -> t.times(plus, minus));
    refused("(L - E) (L + E)", STATE, () -> t.times(minus, plus));
    refused("(L + E) (L + E)", STATE, () -> t.times(plus, plus));
    int x = t.term(ONE, 1, 3);
    isSum("(L + E) x: they stand in one alone", t, t.times(plus, x), row(L, 1, 3), row(E, 1, 3));
    isSum("x (L - E)", t, t.times(x, minus), row(L, 1, 3), row(E, 1, -3));
    int noLog = t.less(plus, t.term(L, 0, 1), 1);
    isSum("L - L is no L", t, t.times(noLog, t.term(E_UNDER, 0, 1)), row(ONE, 0, 1));
    refused("L beside x times E", STATE, () -> t.times(t.add(x, t.term(L, -2, 1)), t.term(E, 0, 1)));
    isSum("L + E as a sum", t, t.add(t.term(L, 0, 1), t.term(E, 0, 1)), row(L, 0, 1), row(E, 0, 1));
  }

  private static void restIsTheOnlyOne() {
    for (int kind = 4; kind < 8; kind++) {
      Tower t = new Tower();
      int f = sum(t, row(kind, -4, 5), row(kind, -3, -7), row(kind, -2, 11), row(kind, -1, 13), row(kind, 3, 2));
      int underX = t.term(kind, -1, 1);
      int r = t.rest(f, kind);
      int slope = t.less(f, underX, r);
      due("rest of the slope, kind " + kind, t.rest(slope, kind), 0);
      int integral = t.integrate(slope);
      due("the slope of its integral, kind " + kind, t.same(t.derive(integral), slope), true);
      due("-4 of its integral, kind " + kind, t.at(integral, kind, -4), 0);
      for (int apart : new int[] {1, 2, 16001, P - 1}) {
        due("integrate with another r, kind " + kind, t.integrate(t.less(f, underX, r + apart)), -1);
      }
    }
  }

  private static void restOfTheLowestPowers() {
    for (int kind = 4; kind < 8; kind++) {
      Tower t = new Tower();
      int i = E_POWER[kind];
      due("rest of x^-4, kind " + kind, t.rest(t.term(kind, -4, 6), kind), mod(i * i * i));
      due("rest of x^-4 less the slope of x^-3", t.rest(sum(t, row(kind, -4, 3), row(kind, -3, -i)), kind), 0);
      due("rest of the slope of x^-3", t.rest(t.derive(t.term(kind, -3, 1)), kind), 0);
      isSum("its integral", t, t.integrate(t.derive(t.term(kind, -3, 1))), row(kind, -3, 1));
      int slope = t.derive(sum(t, row(kind, -3, 9), row(kind, -2, 8), row(kind, -1, 7), row(kind, 4, 6)));
      isSum("an integral from -3 to 4", t, t.integrate(slope),
          row(kind, -3, 9), row(kind, -2, 8), row(kind, -1, 7), row(kind, 4, 6));
    }
  }

  private static void restOfLogs() {
    Tower t = new Tower();
    for (int kind = 0; kind < 4; kind++) {
      for (int n = -4; n <= 4; n++) {
        due("rest at " + n + " of kind " + kind, t.rest(t.term(kind, n, 9), kind), 0);
      }
    }
    int all = sum(t, row(ONE, -1, 1), row(L, -1, 2), row(LL, -1, 3), row(LLL, -1, 4), row(EE, -1, 5));
    for (int kind = 0; kind < 7; kind++) {
      due("rest of kind " + kind + " of a sum", t.rest(all, kind), 0);
    }
    due("rest of E E of the sum", t.rest(all, EE), 5);
  }

  private static void slopeOfTheIntegral() {
    for (int kind = 0; kind < 8; kind++) {
      Tower t = new Tower();
      for (int n = kind < 4 ? -4 : 0; n <= (kind < 4 ? 3 : 4); n++) {
        if (kind != LLL || n != -1) {
          int f = t.term(kind, n, 5);
          due("(the integral)' at " + n + " of kind " + kind, t.same(t.derive(t.integrate(f)), f), true);
        }
      }
    }
    Tower t = new Tower();
    int f = sum(t, row(LLL, 3, 1), row(LLL, -4, 2), row(LL, -1, 3), row(L, 3, 4), row(ONE, -4, 5), row(ONE, -1, 6),
        row(EE, 4, 7), row(EE_UNDER, 4, 8), row(E, -1, 9), row(E, -2, -9), row(E_UNDER, 0, 10));
    int integral = t.integrate(f);
    due("(the integral of a long sum)'", t.same(t.derive(integral), f), true);
    due("its constant", t.at(integral, ONE, 0), 0);
  }

  private static void integralWithoutConstant() {
    Tower t = new Tower();
    int f = sum(t, row(ONE, 0, 7), row(ONE, 1, 2), row(L, 0, 3), row(E, 0, 4));
    int integral = t.integrate(t.derive(f));
    isSum("the integral of (7 + 2 x + 3 L + 4 E)'", t, integral, row(ONE, 1, 2), row(L, 0, 3), row(E, 0, 4));
    due("0 at n = 0 of kind 0", t.at(integral, ONE, 0), 0);
    isSum("the integral of nothing", t, t.integrate(nothing(t)));
    isSum("the integral of 7'", t, t.integrate(t.derive(t.term(ONE, 0, 7))));
    isSum("the integral behind one that had much", t, t.integrate(t.term(E, 0, 1)), row(E, 0, 1));
  }

  private static void noSuchElement() {
    Tower t = new Tower();
    int f = t.term(ONE, 1, 1);
    int made = t.term(E, 0, 1) + 1;
    refusedHandles("add f", made, bad -> t.add(bad, f));
    refusedHandles("add g", made, bad -> t.add(f, bad));
    refusedHandles("less f", made, bad -> t.less(bad, f, 1));
    refusedHandles("less g", made, bad -> t.less(f, bad, 1));
    refusedHandles("less g, v 0", made, bad -> t.less(f, bad, 0));
    refusedHandles("times f", made, bad -> t.times(bad, f));
    refusedHandles("times g", made, bad -> t.times(f, bad));
    refusedHandles("derive", made, t::derive);
    refusedHandles("integrate", made, t::integrate);
    refusedHandles("rest", made, bad -> t.rest(bad, E));
    refusedHandles("at", made, bad -> t.at(bad, ONE, 1));
    refusedHandles("terms", made, bad -> t.terms(bad, ONE));
    refusedHandles("terms of all", made, bad -> t.terms(bad, -1));
    refusedHandles("degree", made, bad -> t.degree(bad, ONE));
    refusedHandles("value", made, bad -> t.value(bad, 1, 1, 1));
    refusedHandles("value at 0", made, bad -> t.value(bad, 0, 0, 0));
    refusedHandles("same f", made, bad -> t.same(bad, f));
    refusedHandles("same g", made, bad -> t.same(f, bad));
    refusedHandles("same, both", made, bad -> t.same(bad, bad));
    due("count", t.count(), made);
  }

  private static void sixtyAreThere() {
    Tower t = new Tower();
    t.term(ONE, 1, 2);
    while (t.count() < 59) {
      t.term(E, 0, 1);
    }
    due("the sixtieth, by less", t.less(0, 0, 0), 59);
    refused("term", STATE, () -> t.term(ONE, 0, 1));
    refused("term of 0", STATE, () -> t.term(ONE, 0, 0));
    refused("add", STATE, () -> t.add(0, 59));
    refused("less", STATE, () -> t.less(0, 59, 0));
    refused("times", STATE, () -> t.times(0, 0));
    refused("derive", STATE, () -> t.derive(0));
    refused("integrate", STATE, () -> t.integrate(0));
    due("count", t.count(), 60);
    due("at", t.at(59, ONE, 1), 2);
    due("terms", t.terms(59, -1), 1);
    due("degree", t.degree(59, ONE), 1);
    due("rest", t.rest(59, E), 0);
    due("value", t.value(59, 3, 0, 0), 6);
    due("same", t.same(0, 59), true);
    String[] makers = {"term", "add", "less", "times", "derive", "integrate"};
    for (int maker = 0; maker < makers.length; maker++) {
      Tower other = new Tower();
      while (other.count() < 59) {
        other.term(ONE, 1, 1);
      }
      due("the sixtieth by " + makers[maker], make(other, maker), 59);
      due("count behind it", other.count(), 60);
    }
  }

  private static int make(Tower t, int maker) {
    return switch (maker) {
      case 0 -> t.term(ONE, 0, 1);
      case 1 -> t.add(0, 1);
      case 2 -> t.less(0, 1, 1);
      case 3 -> t.times(0, 1);
      case 4 -> t.derive(0);
      default -> t.integrate(0);
    };
  }

  private static void firstOfSeveral() {
    Tower t = full();
    refused("term: no kind, full", ARGUMENT, () -> t.term(8, 0, 1));
    refused("term: no n, full", ARGUMENT, () -> t.term(0, -5, 1));
    refused("term: neither kind nor n, full", ARGUMENT, () -> t.term(-1, 5, 1));
    refused("add: no f, full", INDEX, () -> t.add(60, 0));
    refused("add: no g, full", INDEX, () -> t.add(0, 60));
    refused("less: no f, full", INDEX, () -> t.less(-1, 0, 1));
    refused("less: no g, full", INDEX, () -> t.less(0, -1, 1));
    refused("times: no f, full", INDEX, () -> t.times(60, 0));
    refused("times: no g, full", INDEX, () -> t.times(0, 60));
    refused("derive: no f, full", INDEX, () -> t.derive(60));
    refused("integrate: no f, full", INDEX, () -> t.integrate(-1));
    refused("rest: no f, no kind", INDEX, () -> t.rest(60, 8));
    refused("rest: no f, kind -1", INDEX, () -> t.rest(-1, -1));
    refused("at: no f, no kind", INDEX, () -> t.at(60, 8, 0));
    refused("at: no f, no n", INDEX, () -> t.at(60, 0, 5));
    refused("at: no f, no kind, no n", INDEX, () -> t.at(-1, -1, -5));
    refused("terms: no f, no kind", INDEX, () -> t.terms(60, 8));
    refused("terms: no f, kind -2", INDEX, () -> t.terms(-1, -2));
    refused("degree: no f, no kind", INDEX, () -> t.degree(60, 8));
    refused("degree: no f, kind -1", INDEX, () -> t.degree(-1, -1));
    refused("times: too far, full", STATE, () -> t.times(0, 2));
    refused("integrate: too far, full", STATE, () -> t.integrate(2));
  }

  private static void nothingChanges() {
    Tower t = new Tower();
    int f = sum(t, row(LLL, -1, 3), row(E, -4, 2), row(LL, 4, 5));
    int g = sum(t, row(EE, 4, 3), row(L, -4, 1), row(ONE, 0, 2));
    int made = t.count();
    int[] numbersOfF = snapshot(t, f);
    int[] numbersOfG = snapshot(t, g);
    refused("term, no kind", ARGUMENT, () -> t.term(8, 0, 1));
    refused("term, no n", ARGUMENT, () -> t.term(0, 5, 1));
    refused("add", INDEX, () -> t.add(f, made));
    refused("less", INDEX, () -> t.less(made, g, 1));
    refused("times", INDEX, () -> t.times(f, -1));
    refused("times, too far", STATE, () -> t.times(f, g));
    refused("times, too far by n", STATE, () -> t.times(g, 0));
    refused("derive", INDEX, () -> t.derive(made));
    refused("derive, too far", STATE, () -> t.derive(f));
    refused("integrate", INDEX, () -> t.integrate(made));
    due("integrate with a rest", t.integrate(f), -1);
    refused("integrate, too far", STATE, () -> t.integrate(0));
    refused("at", ARGUMENT, () -> t.at(f, 8, 5));
    refused("terms", ARGUMENT, () -> t.terms(f, 8));
    refused("degree", ARGUMENT, () -> t.degree(f, -1));
    refused("rest", ARGUMENT, () -> t.rest(f, -1));
    due("value", t.value(f, 0, 1, 1), -1);
    due("count", t.count(), made);
    due("numbers of f", Arrays.equals(snapshot(t, f), numbersOfF), true);
    due("numbers of g", Arrays.equals(snapshot(t, g), numbersOfG), true);
    due("the next handle", t.term(E, 1, 1), made);
    isSum("the next element", t, made, row(E, 1, 1));
    refused("times, too far", STATE, () -> t.times(f, g));
    isSum("a product behind one too far", t, t.times(made, made), row(EE, 2, 1));
    refused("integrate, too far", STATE, () -> t.integrate(0));
    isSum("an integral behind one too far", t, t.integrate(made), row(E, 1, 1), row(E, 0, -1));
    refused("derive, too far", STATE, () -> t.derive(f));
    isSum("a slope behind one too far", t, t.derive(made), row(E, 1, 1), row(E, 0, 1));
  }

  private static void nothingChangesWhenFull() {
    Tower t = full();
    int[] numbersOfTheFirst = snapshot(t, 0);
    int[] numbersOfTheLast = snapshot(t, 59);
    refused("term", STATE, () -> t.term(EE, 4, 1));
    refused("add", STATE, () -> t.add(0, 1));
    refused("less", STATE, () -> t.less(0, 1, 1));
    refused("times", STATE, () -> t.times(1, 1));
    refused("times, too far", STATE, () -> t.times(59, 0));
    refused("derive", STATE, () -> t.derive(1));
    refused("integrate", STATE, () -> t.integrate(1));
    refused("integrate with a rest", STATE, () -> t.integrate(0));
    due("count", t.count(), 60);
    due("numbers of the first", Arrays.equals(snapshot(t, 0), numbersOfTheFirst), true);
    due("numbers of the last", Arrays.equals(snapshot(t, 59), numbersOfTheLast), true);
    refused("term, again", STATE, () -> t.term(EE, 4, 1));
  }

  // Promises 1 to 7.

  private static void newObjectIsEmpty() {
    Tower t = new Tower();
    due("count", t.count(), 0);
    refused("add", INDEX, () -> t.add(0, 0));
    refused("less", INDEX, () -> t.less(0, 0, 0));
    refused("times", INDEX, () -> t.times(0, 0));
    refused("derive", INDEX, () -> t.derive(0));
    refused("integrate", INDEX, () -> t.integrate(0));
    refused("rest", INDEX, () -> t.rest(0, 0));
    refused("at", INDEX, () -> t.at(0, 0, 0));
    refused("terms", INDEX, () -> t.terms(0, -1));
    refused("degree", INDEX, () -> t.degree(0, 0));
    refused("value", INDEX, () -> t.value(0, 1, 1, 1));
    refused("same", INDEX, () -> t.same(0, 0));
    Tower other = full();
    due("count beside a full one", new Tower().count(), 0);
    due("count of the full one", other.count(), 60);
    due("the first handle", t.term(ONE, 0, 0), 0);
    due("the first element", t.terms(0, -1), 0);
  }

  private static void termAtEveryPlace() {
    for (int kind = 0; kind < 8; kind++) {
      Tower t = new Tower();
      for (int n = -4; n <= 4; n++) {
        isSum("term", t, t.term(kind, n, 100 + n), row(kind, n, 100 + n));
      }
      isSum("term of 0", t, t.term(kind, 4, 0));
      isSum("term of 32003", t, t.term(kind, -4, P));
      isSum("term of -1", t, t.term(kind, -4, -1), row(kind, -4, P - 1));
    }
  }

  private static void termRefused() {
    Tower t = new Tower();
    for (int n : NO_POWERS) {
      refused("n " + n, ARGUMENT, () -> t.term(EE, n, 1));
      refused("n " + n + " with 0", ARGUMENT, () -> t.term(ONE, n, 0));
    }
    for (int kind : NO_KINDS) {
      refused("kind " + kind, ARGUMENT, () -> t.term(kind, 4, 1));
      refused("kind " + kind + " with 0", ARGUMENT, () -> t.term(kind, 0, 0));
    }
    // Places that would fall on another kind's numbers if kind and n were only tested together.
    refused("kind 0, n 5", ARGUMENT, () -> t.term(0, 5, 1));
    refused("kind 7, n -5", ARGUMENT, () -> t.term(7, -5, 1));
    refused("kind -1, n 4", ARGUMENT, () -> t.term(-1, 4, 1));
    refused("kind 8, n -4", ARGUMENT, () -> t.term(8, -4, 1));
    due("count", t.count(), 0);
  }

  private static void sums() {
    Tower t = new Tower();
    int all = everything(t);
    int none = nothing(t);
    due("with nothing", t.same(t.add(all, none), all), true);
    due("of nothing with it", t.same(t.add(none, all), all), true);
    isSum("of nothing with nothing", t, t.add(none, none));
    due("with itself", t.same(t.add(all, all), t.less(none, all, -2)), true);
    isSum("with its opposite", t, t.add(all, t.less(none, all, 1)));
    isSum("L and E side by side", t, t.add(t.term(L, -4, 1), t.term(E, 4, P - 1)), row(L, -4, 1), row(E, 4, -1));
  }

  private static void differences() {
    Tower t = new Tower();
    int all = everything(t);
    int none = nothing(t);
    isSum("it less itself", t, t.less(all, all, 1));
    isSum("it less itself, v 32004", t, t.less(all, all, P + 1));
    due("v 0", t.same(t.less(all, all, 0), all), true);
    due("v 32003", t.same(t.less(all, all, P), all), true);
    due("v -32003", t.same(t.less(all, all, -P), all), true);
    due("v -1", t.same(t.less(all, all, -1), t.add(all, all)), true);
    due("v 32002", t.same(t.less(all, all, P - 1), t.add(all, all)), true);
    due("less nothing", t.same(t.less(all, none, Long.MAX_VALUE), all), true);
    int x = t.term(ONE, 1, 1);
    due("v the greatest", t.at(t.less(none, x, Long.MAX_VALUE), ONE, 1), mod(-(Long.MAX_VALUE % P)));
    due("v the least", t.at(t.less(none, x, Long.MIN_VALUE), ONE, 1), mod(-(Long.MIN_VALUE % P)));
    isSum("f less g is not g less f", t, t.less(x, none, 1), row(ONE, 1, 1));
    isSum("g less f", t, t.less(none, x, 1), row(ONE, 1, -1));
  }

  private static void productsOfPowers() {
    for (int n = -4; n <= 4; n++) {
      Tower t = new Tower();
      int f = t.term(E, n, 3);
      for (int m = -4; m <= 4; m++) {
        int g = t.term(E_UNDER, m, P - 1);
        if (n + m < -4 || n + m > 4) {
          refused("n " + n + " with " + m, STATE, () -> t.times(f, g));
        } else {
          isSum("n " + n + " with " + m, t, t.times(f, g), row(ONE, n + m, -3));
        }
      }
    }
  }

  private static void productsOfKinds() {
    for (int kind = 0; kind < 8; kind++) {
      Tower t = new Tower();
      int f = t.term(kind, 1, 2);
      for (int other = 0; other < 8; other++) {
        int g = t.term(other, -2, 5);
        int due = kindOf(L_POWER[kind] + L_POWER[other], E_POWER[kind] + E_POWER[other]);
        if (due < 0) {
          refused("kind " + kind + " with " + other, STATE, () -> t.times(f, g));
        } else {
          isSum("kind " + kind + " with " + other, t, t.times(f, g), row(due, -1, 10));
        }
      }
    }
  }

  private static void productsOfSums() {
    Tower t = new Tower();
    int all = everything(t);
    int one = t.term(ONE, 0, 1);
    due("all 72 terms with 1", t.same(t.times(all, one), all), true);
    due("1 with all 72 terms", t.same(t.times(one, all), all), true);
    isSum("all 72 terms with nothing", t, t.times(all, nothing(t)));
    refused("all 72 terms with x", STATE, () -> t.times(all, t.term(ONE, 1, 1)));
    refused("all 72 terms with L", STATE, () -> t.times(all, t.term(L, 0, 1)));
    refused("all 72 terms with E", STATE, () -> t.times(all, t.term(E, 0, 1)));
    refused("all 72 terms with themselves", STATE, () -> t.times(all, all));
    Tower u = new Tower();
    int wave = sum(u, row(E, 1, P - 1), row(ONE, 0, P - 1), row(E_UNDER, -1, P - 1));
    isSum("(x E + 1 + 1 / (x E)) twice", u, u.times(wave, wave),
        row(EE, 2, 1), row(E, 1, 2), row(ONE, 0, 3), row(E_UNDER, -1, 2), row(EE_UNDER, -2, 1));
    int log = sum(u, row(L, 0, 1), row(ONE, 0, 1));
    int logs = u.times(log, u.times(log, log));
    isSum("(L + 1) three times", u, logs, row(LLL, 0, 1), row(LL, 0, 3), row(L, 0, 3), row(ONE, 0, 1));
    refused("(L + 1) four times", STATE, () -> u.times(logs, log));
    int more = sum(u, row(ONE, 1, 1), row(ONE, 0, 1));
    int fewer = sum(u, row(ONE, 1, 1), row(ONE, 0, -1));
    isSum("(x + 1) (x - 1)", u, u.times(more, fewer), row(ONE, 2, 1), row(ONE, 0, -1));
  }

  private static void slopes() {
    for (int kind = 0; kind < 8; kind++) {
      Tower t = new Tower();
      for (int n = -3; n <= 4; n++) {
        int slope = t.derive(t.term(kind, n, 7));
        due("from x, n " + n + ", kind " + kind, t.at(slope, kind, n - 1), mod(7 * n));
        due("from E, n " + n + ", kind " + kind, t.at(slope, kind, n), mod(7 * E_POWER[kind]));
        if (L_POWER[kind] > 0) {
          due("from L, n " + n + ", kind " + kind, t.at(slope, kind - 1, n - 1), 7 * L_POWER[kind]);
        }
        int parts = (n != 0 ? 1 : 0) + (E_POWER[kind] != 0 ? 1 : 0) + (L_POWER[kind] != 0 ? 1 : 0);
        due("parts, n " + n + ", kind " + kind, t.terms(slope, -1), parts);
      }
      int far = t.term(kind, -4, 1);
      refused("x^-4 of kind " + kind, STATE, () -> t.derive(far));
      isSum("0 x^-4 of kind " + kind, t, t.derive(t.term(kind, -4, 0)));
    }
    Tower t = new Tower();
    isSum("parts that fall out", t, t.derive(sum(t, row(L, 2, 2), row(ONE, 2, -1))), row(L, 1, 4));
    isSum("E less x E", t, t.derive(sum(t, row(E, 0, 1), row(E, 1, -1))), row(E, 1, -1));
    isSum("the slope of nothing", t, t.derive(nothing(t)));
  }

  private static void integralsOfLogs() {
    for (int kind = 0; kind < 4; kind++) {
      Tower t = new Tower();
      int k = kind;
      for (int n = -4; n <= 3; n++) {
        int m = n;
        int f = t.term(kind, n, 1);
        if (n != -1) {
          int integral = t.integrate(f);
          due("n " + n + ", kind " + kind, t.at(integral, kind, n + 1), over(1, n + 1));
          due("its terms", t.terms(integral, -1), kind + 1);
        } else if (kind < 3) {
          isSum("1 / x, kind " + kind, t, t.integrate(f), row(kind + 1, 0, over(1, kind + 1)));
        } else {
          refused("n " + m + ", kind " + k, STATE, () -> t.integrate(f));
        }
      }
      int far = t.term(kind, 4, 1);
      refused("x^4 of kind " + kind, STATE, () -> t.integrate(far));
      isSum("0 x^4 of kind " + kind, t, t.integrate(t.term(kind, 4, 0)));
    }
    Tower t = new Tower();
    isSum("L L L", t, t.integrate(t.term(LLL, 0, 1)),
        row(LLL, 1, 1), row(LL, 1, -3), row(L, 1, 6), row(ONE, 1, -6));
    isSum("x^3 L", t, t.integrate(t.term(L, 3, 16)), row(L, 4, 4), row(ONE, 4, -1));
    isSum("L L / x^4", t, t.integrate(t.term(LL, -4, 27)), row(LL, -3, -9), row(L, -3, -6), row(ONE, -3, -2));
  }

  private static void integralsOfExponentials() {
    for (int kind = 4; kind < 8; kind++) {
      Tower t = new Tower();
      int i = E_POWER[kind];
      isSum("x^0 of kind " + kind, t, t.integrate(t.term(kind, 0, 4)), row(kind, 0, 4 / i));
      isSum("x^1 of kind " + kind, t, t.integrate(t.term(kind, 1, 4)), row(kind, 1, 4 / i), row(kind, 0, -4 / (i * i)));
      int integral = t.integrate(t.term(kind, 4, 4));
      due("x^4 of kind " + kind, t.at(integral, kind, 4), mod(4 / i));
      due("its terms", t.terms(integral, kind), 5);
      due("its degree", t.degree(integral, kind), 4);
      isSum("(1 / x)' of kind " + kind, t, t.integrate(sum(t, row(kind, -1, i), row(kind, -2, -1))), row(kind, -1, 1));
      isSum("0 of kind " + kind, t, t.integrate(t.term(kind, -1, P)));
    }
  }

  private static void integrateWithARest() {
    for (int kind = 4; kind < 8; kind++) {
      Tower t = new Tower();
      for (int n = -4; n <= -1; n++) {
        due("n " + n + ", kind " + kind, t.integrate(t.term(kind, n, 1)), -1);
        due("n " + n + ", kind " + kind + ", -1", t.integrate(t.term(kind, n, -1)), -1);
      }
      int beside = sum(t, row(kind, -1, 1), row(ONE, 2, 1), row(L, -1, 1), row(11 - kind, 3, 1));
      due("a rest beside other terms", t.integrate(beside), -1);
    }
    Tower t = new Tower();
    due("rests 1 and -1 of two kinds", t.integrate(sum(t, row(E, -1, 1), row(E_UNDER, -1, -1))), -1);
    due("rests 1 of all kinds", t.integrate(sum(t, row(4, -1, 1), row(5, -1, 1), row(6, -1, 1), row(7, -1, 1))), -1);
    due("1 / x has no rest", t.integrate(t.term(ONE, -1, 1)) >= 0, true);
  }

  private static void integrateWithARestMakesNone() {
    Tower t = new Tower();
    int f = t.term(E, -1, 1);
    due("integrate", t.integrate(f), -1);
    due("count", t.count(), 1);
    refused("the handle that it would have", INDEX, () -> t.terms(1, -1));
    refused("its -1 as a handle", INDEX, () -> t.derive(t.integrate(f)));
    isSum("the element itself", t, f, row(E, -1, 1));
    due("the next handle", t.term(L, 0, 2), 1);
    isSum("the next element", t, 1, row(L, 0, 2));
  }

  private static void integrateFullBeforeRest() {
    Tower t = new Tower();
    int f = t.term(E, -1, 1);
    while (t.count() < 59) {
      t.term(ONE, 0, 1);
    }
    due("with 59", t.integrate(f), -1);
    t.term(ONE, 0, 1);
    refused("with 60", STATE, () -> t.integrate(f));
    due("its rest", t.rest(f, E), 1);
  }

  private static void integrateRestBeforeTooFar() {
    Tower t = new Tower();
    int under = t.term(E, -1, 1);
    for (int kind = 0; kind < 4; kind++) {
      int far = t.term(kind, 4, 1);
      due("x^5, kind " + kind, t.integrate(t.add(far, under)), -1);
      refused("x^5 without the rest, kind " + kind, STATE, () -> t.integrate(far));
    }
    int l4 = t.term(LLL, -1, 1);
    due("L^4", t.integrate(t.add(l4, under)), -1);
    refused("L^4 without the rest", STATE, () -> t.integrate(t.less(t.add(l4, under), under, 1)));
    due("no such element stays ahead", t.rest(under, E), 1);
    refused("no such element", INDEX, () -> t.integrate(t.count()));
  }

  // Promises 8 to 14.

  private static void restOfEveryPlace() {
    for (int kind = 4; kind < 8; kind++) {
      Tower t = new Tower();
      int i = E_POWER[kind];
      int[] due = {over(i * i * i, 6), over(i * i, 2), mod(i), 1};
      for (int n = -4; n <= 4; n++) {
        due("n " + n + ", kind " + kind, t.rest(t.term(kind, n, 1), kind), n < 0 ? due[n + 4] : 0);
        due("n " + n + ", another kind", t.rest(t.term(kind, n, 1), 11 - kind), 0);
      }
      int mixed = sum(t, row(kind, -4, 6), row(kind, -3, 2), row(kind, -2, 1), row(kind, -1, 1));
      due("of a sum, kind " + kind, t.rest(mixed, kind), mod(i * i * i + i * i + i + 1));
      due("of nothing", t.rest(nothing(t), kind), 0);
    }
  }

  private static void restRefused() {
    Tower t = new Tower();
    int f = t.term(E, -1, 1);
    for (int kind : NO_KINDS) {
      refused("kind " + kind, ARGUMENT, () -> t.rest(f, kind));
    }
    for (int kind = 0; kind < 8; kind++) {
      due("kind " + kind, t.rest(f, kind), kind == E ? 1 : 0);
    }
  }

  private static void atEveryPlace() {
    Tower t = new Tower();
    int all = everything(t);
    for (int kind = 0; kind < 8; kind++) {
      for (int n = -4; n <= 4; n++) {
        due("kind " + kind + ", n " + n, t.at(all, kind, n), kind == 0 ? 1 : kind + 1);
      }
    }
    int none = nothing(t);
    for (int kind = 0; kind < 8; kind++) {
      for (int n = -4; n <= 4; n++) {
        due("nothing, kind " + kind + ", n " + n, t.at(none, kind, n), 0);
      }
    }
  }

  private static void atRefused() {
    Tower t = new Tower();
    t.term(EE, 4, 1);
    int f = t.term(L, 0, 1);
    t.term(ONE, -4, 1);
    for (int n : NO_POWERS) {
      refused("n " + n, ARGUMENT, () -> t.at(f, ONE, n));
      refused("n " + n + ", kind 7", ARGUMENT, () -> t.at(f, EE, n));
    }
    for (int kind : NO_KINDS) {
      refused("kind " + kind, ARGUMENT, () -> t.at(f, kind, -4));
      refused("kind " + kind + ", n 4", ARGUMENT, () -> t.at(f, kind, 4));
    }
    refused("neither", ARGUMENT, () -> t.at(f, 8, 5));
  }

  private static void termsCounted() {
    Tower t = new Tower();
    int all = everything(t);
    due("of all, all 72", t.terms(all, -1), 72);
    for (int kind = 0; kind < 8; kind++) {
      due("all of kind " + kind, t.terms(all, kind), 9);
    }
    int none = nothing(t);
    for (int kind = -1; kind < 8; kind++) {
      due("none of kind " + kind, t.terms(none, kind), 0);
    }
    int ends = sum(t, row(ONE, -4, 1), row(EE, 4, 1));
    due("the first and the last", t.terms(ends, -1), 2);
    due("the first", t.terms(ends, ONE), 1);
    due("the last", t.terms(ends, EE), 1);
    int gone = t.add(ends, t.term(EE, 4, -1));
    due("a number that has become 0", t.terms(gone, EE), 0);
    due("a number that has become 0, of all", t.terms(gone, -1), 1);
  }

  private static void termsRefused() {
    Tower t = new Tower();
    int f = t.term(ONE, 0, 1);
    for (int kind : NO_KINDS) {
      if (kind != -1) {
        refused("kind " + kind, ARGUMENT, () -> t.terms(f, kind));
      }
    }
    due("kind -1 is all", t.terms(f, -1), 1);
  }

  private static void degreeIsTheGreatest() {
    Tower t = new Tower();
    int all = everything(t);
    int x = t.term(ONE, 4, 1);
    for (int kind = 0; kind < 8; kind++) {
      due("all of kind " + kind, t.degree(all, kind), 4);
    }
    for (int n = -4; n <= 4; n++) {
      due("x^" + n, t.degree(t.term(EE, n, 1), EE), n);
    }
    due("x^4 - x^4 + x^-4", t.degree(t.add(t.less(x, x, 1), t.term(ONE, -4, P - 1)), ONE), -4);
    int two = sum(t, row(L, -2, 1), row(L, -4, 1), row(LL, 3, 1));
    due("of two, L", t.degree(two, L), -2);
    due("of two, L L", t.degree(two, LL), 3);
  }

  private static void degreeOfNone() {
    Tower t = new Tower();
    int none = nothing(t);
    int x = t.term(ONE, 4, 1);
    for (int kind = 0; kind < 8; kind++) {
      due("nothing, kind " + kind, t.degree(none, kind), -5);
      due("x^4, kind " + kind, t.degree(x, kind), kind == ONE ? 4 : -5);
      due("32003, kind " + kind, t.degree(t.term(kind, 4, P), kind), -5);
    }
    due("x^4 - x^4", t.degree(t.less(x, x, 1), ONE), -5);
  }

  private static void degreeRefused() {
    Tower t = new Tower();
    int f = t.term(ONE, 0, 1);
    for (int kind : NO_KINDS) {
      refused("kind " + kind, ARGUMENT, () -> t.degree(f, kind));
    }
  }

  private static void values() {
    int[] powersOf3 = {over(1, 81), over(1, 27), over(1, 9), over(1, 3), 1, 3, 9, 27, 81};
    int[] kinds = {1, 5, 25, 125, over(1, 49), over(1, 7), 7, 49};
    for (int kind = 0; kind < 8; kind++) {
      Tower t = new Tower();
      for (int n = -4; n <= 4; n++) {
        int f = t.term(kind, n, 10);
        int due = mod((long) powersOf3[n + 4] * kinds[kind] % P * 10);
        due("n " + n + ", kind " + kind, t.value(f, 3, 5, 7), due);
        due("past the modulus", t.value(f, 3L - P, 5L + 2L * P, 7L - 65536L * P), due);
      }
    }
    Tower t = new Tower();
    int all = everything(t);
    long inX = 0;
    for (int power : powersOf3) {
      inX += power;
    }
    long inKinds = 1;
    for (int kind = 1; kind < 8; kind++) {
      inKinds += (kind + 1) * (long) kinds[kind];
    }
    due("all 72 terms", t.value(all, 3, 5, 7), mod(inX % P * (inKinds % P)));
    due("nothing", t.value(nothing(t), 3, 5, 7), 0);
    due("long ones", t.value(t.term(ONE, 1, 1), Long.MIN_VALUE, Long.MAX_VALUE, Long.MAX_VALUE), mod(Long.MIN_VALUE));
  }

  private static void valueDividesByX() {
    for (int kind = 0; kind < 8; kind++) {
      Tower t = new Tower();
      for (int n = -4; n <= 4; n++) {
        int f = t.term(kind, n, 1);
        for (long nought : NOUGHTS) {
          due("x " + nought + ", n " + n + ", kind " + kind, t.value(f, nought, 1, 1), n < 0 ? -1 : n == 0 ? 1 : 0);
        }
        due("x 1, n " + n + ", kind " + kind, t.value(f, 1, 1, 1), 1);
      }
      due("0 / x at x 0", t.value(t.term(kind, -1, 0), 0, 1, 1), 0);
    }
    Tower t = new Tower();
    int gone = t.less(sum(t, row(ONE, -1, 1), row(ONE, 0, 8)), t.term(ONE, -1, 1), 1);
    due("1 / x - 1 / x + 8 at x 0", t.value(gone, 0, 0, 0), 8);
    due("1 / x + 8 at x 0", t.value(t.add(gone, t.term(L, -1, 1)), 0, 1, 1), -1);
    due("nothing at x 0", t.value(nothing(t), 0, 0, 0), 0);
  }

  private static void valueDividesByE() {
    for (int kind = 0; kind < 8; kind++) {
      Tower t = new Tower();
      int e = E_POWER[kind];
      for (int n = -4; n <= 4; n++) {
        int f = t.term(kind, n, 1);
        for (long nought : NOUGHTS) {
          due("E " + nought + ", n " + n + ", kind " + kind, t.value(f, 1, 1, nought), e < 0 ? -1 : e == 0 ? 1 : 0);
        }
      }
      due("E 0 of a 0, kind " + kind, t.value(t.term(kind, 1, 0), 1, 1, 0), 0);
    }
    Tower t = new Tower();
    int gone = t.less(sum(t, row(EE_UNDER, 0, 1), row(ONE, 0, 8)), t.term(EE_UNDER, 0, 1), 1);
    due("1 / (E E) - 1 / (E E) + 8 at E 0", t.value(gone, 0, 0, 0), 8);
    due("1 / E + 8 at E 0", t.value(t.add(gone, t.term(E_UNDER, 2, 1)), 1, 1, 0), -1);
    due("x / E at x 0 and E 0", t.value(t.term(E_UNDER, 1, 1), 0, 1, 0), -1);
    due("E / x at x 0 and E 0", t.value(t.term(E, -1, 1), 0, 1, 0), -1);
    due("x E at x 0 and E 0", t.value(t.term(E, 1, 1), 0, 1, 0), 0);
    due("1 / x at E 0", t.value(t.term(ONE, -1, 1), 1, 1, 0), 1);
    due("1 / E at x 0", t.value(t.term(E_UNDER, 0, 1), 0, 1, 1), 1);
  }

  private static void valueWithoutL() {
    Tower t = new Tower();
    for (int kind = 0; kind < 8; kind++) {
      int f = t.term(kind, -4, 1);
      for (long nought : NOUGHTS) {
        due("L " + nought + ", kind " + kind, t.value(f, 1, nought, 1), L_POWER[kind] > 0 ? 0 : 1);
      }
    }
  }

  private static void samePlaceByPlace() {
    for (int kind = 0; kind < 8; kind++) {
      Tower t = new Tower();
      int all = everything(t);
      due("itself", t.same(all, all), true);
      for (int n = -4; n <= 4; n++) {
        int other = t.add(all, t.term(kind, n, 1));
        due("but for n " + n + " of kind " + kind, t.same(all, other), false);
        due("but for n " + n + " of kind " + kind + ", the other way", t.same(other, all), false);
      }
    }
    Tower t = new Tower();
    due("nothing and nothing", t.same(nothing(t), t.term(EE, 4, P)), true);
    due("1 and 32004", t.same(t.term(L, 0, 1), t.term(L, 0, P + 1)), true);
    due("-1 and 32002", t.same(t.term(L, 0, -1), t.term(L, 0, P - 1)), true);
    int made = t.count();
    refusedHandles("f", made, bad -> t.same(bad, 0));
    refusedHandles("g", made, bad -> t.same(0, bad));
  }

  private static void countGoesUpToSixty() {
    Tower t = new Tower();
    for (int made = 0; made < 60; made++) {
      due("count", t.count(), made);
      refused("behind a refused call", ARGUMENT, () -> t.term(8, 0, 1));
      due("count behind a refused call", t.count(), made);
      t.term(ONE, 0, 0);
    }
    due("count of all", t.count(), 60);
    refused("one more", STATE, () -> t.term(ONE, 0, 0));
    due("count behind one more", t.count(), 60);
  }
}
