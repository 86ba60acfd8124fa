import java.math.BigInteger;
import java.util.ArrayList;
import java.util.Arrays;
import java.util.List;

/**
 * The document from its "Terms" to its last promise, word by word: each sentence that tells an answer,
 * an exception or what stays unchanged, with a test that goes through all places it speaks of.
 */
public final class SentencesTest {
  private static final int P = 32003;
  private static final int ONE = 0, L = 1, LL = 2, LLL = 3, EE_UNDER = 4, E_UNDER = 5, E = 6, EE = 7;
  private static final int[] L_POWER = {0, 1, 2, 3, 0, 0, 0, 0};
  private static final int[] E_POWER = {0, 0, 0, 0, -2, -1, 1, 2};
  private static final Object INDEX = IndexOutOfBoundsException.class;
  private static final Object STATE = IllegalStateException.class;
  private static final Object ARGUMENT = IllegalArgumentException.class;
  private static final int PLACES = 72;
  private static final int[] ODDS = {1, 3, 5, 15, 7, 21, 35, 105, 9};
  private static final int[] FAR_OFF = {Integer.MIN_VALUE, Integer.MIN_VALUE + 1, -65536, 65536, Integer.MAX_VALUE};
  private static final int STEPS = 24;

  private static TowerIntegrals object;
  private static int calls = 0;
  private static long seed = 20261116;
  private static String sentence = "";
  private static int sentences = 0;
  private static int wrong = 0;

  private interface Call {
    Object answer();
  }

  private interface Test {
    void run();
  }

  public static void main(String[] args) {
    words();
    tooFar();
    restsAndIntegrals();
    exceptions();
    making();
    asking();
    System.out.println(wrong == 0 ? sentences + " sentences hold" : wrong + " checks failed");
    if (wrong != 0) {
      System.exit(1);
    }
  }

  private static void words() {
    holds("NUMBERS are modulo 32003, 0 .. 32002.", SentencesTest::numbersOneByOne);
    holds("x is a letter; L, E are thought of with slopes (') 1 / x and E.", SentencesTest::slopesOfLetters);
    holds("KINDS are 0: 1, 1: L, 2: L L, 3: L L L, 4: 1 / (E E), 5: 1 / E, 6: E, 7: E E.", SentencesTest::kinds);
    holds("An ELEMENT is a sum of NUMBERS times x to the n times a KIND, n from -4 to 4;",
        SentencesTest::elementOfAllPlaces);
    holds("its slope is that of a sum (..), term by term.", SentencesTest::slopeOfSums);
    holds("its slope is that (..) of products, term by term.", SentencesTest::slopeOfProducts);
    holds("ELEMENTS have handles, 0 .. 59, in the order in which they were made.", SentencesTest::handles);
  }

  private static void tooFar() {
    holds("What would need another n, another KIND, or a product of L and E (..) is TOO FAR: products",
        SentencesTest::productsOfAllPlaces);
    holds("What would need another n (..) is TOO FAR: slopes", SentencesTest::slopesTooFar);
    holds("What would need another n, another KIND (..) is TOO FAR: INTEGRALS", SentencesTest::integralsTooFar);
    holds("(with a NUMBER that isn't 0, when all is summed up;", SentencesTest::summedUp);
    holds("in products of two ELEMENTS also when some L of one meets some E of the other one)",
        SentencesTest::logMeetsExponential);
  }

  private static void restsAndIntegrals() {
    holds("Of an exponential KIND, E to the i, the REST is the NUMBER r for which an ELEMENT's terms of that "
        + "KIND, less r / x times it, are the slope of a sum of such terms", SentencesTest::restBesideASlope);
    holds("(with n at least -3; there is just one such r).", SentencesTest::justOneRest);
    holds("Of KINDS 0 to 3 it is 0.", SentencesTest::restOfLogs);
    holds("The INTEGRAL of an ELEMENT, all RESTS of which are 0, is the one whose slope is it,",
        SentencesTest::slopeOfTheIntegral);
    holds("and that has 0 at n = 0 of KIND 0", SentencesTest::constantOfTheIntegral);
    holds("(there is just one, if it isn't TOO FAR).", SentencesTest::justOneIntegral);
  }

  private static void exceptions() {
    holds("IndexOutOfBoundsException: no such ELEMENT.", SentencesTest::noSuchElement);
    holds("IllegalStateException: 60 are there,", SentencesTest::sixtyAreThere);
    holds("or the new one would be TOO FAR.", SentencesTest::newOneTooFar);
    holds("IllegalArgumentException: as said.", SentencesTest::noSuchKindOrPower);
    holds("Of several the one that stands first behind \"throws\" is thrown;", SentencesTest::firstBehindThrows);
    holds("nothing changes.", SentencesTest::nothingChanges);
    holds("nothing changes: with 60 that are there", SentencesTest::nothingChangesWithSixty);
    holds("nothing changes: a new ELEMENT leaves those before it", SentencesTest::oldOnesStay);
  }

  private static void making() {
    holds("Promise 1: No ELEMENTS.", SentencesTest::newObject);
    holds("Promise 2: v times x to the n times a KIND.", SentencesTest::termOfAllPlaces);
    holds("Promise 2: IllegalArgumentException: no such n, KIND.", SentencesTest::termRefused);
    holds("Promise 3: The sum.", SentencesTest::sum);
    holds("Promise 4: f less v times g.", SentencesTest::less);
    holds("Promise 5: The product.", SentencesTest::product);
    holds("Promise 6: The slope.", SentencesTest::slope);
    holds("Promise 7: The INTEGRAL;", SentencesTest::integral);
    holds("Promise 7: -1 (none is made) if some REST isn't 0", SentencesTest::integralWithARest);
    holds("Promise 7: (told behind 60 that are there,", SentencesTest::restBehindSixty);
    holds("Promise 7: ahead of TOO FAR).", SentencesTest::restAheadOfTooFar);
  }

  private static void asking() {
    holds("Promise 8: The REST of a KIND.", SentencesTest::restOfAllPlaces);
    holds("Promise 8: IllegalArgumentException: no such KIND.", () -> kindRefused("rest"));
    holds("Promise 9: The NUMBER at n of a KIND.", SentencesTest::elementOfAllPlaces);
    holds("Promise 9: IllegalArgumentException: no such n, KIND.", SentencesTest::atRefused);
    holds("Promise 10: How many terms it has, of a KIND (-1: of all).", SentencesTest::termsCounted);
    holds("Promise 10: IllegalArgumentException: no such KIND.", () -> kindRefused("terms"));
    holds("Promise 11: The degree in x of a KIND's terms, the greatest n; -5 if it has none.",
        SentencesTest::degrees);
    holds("Promise 11: IllegalArgumentException: no such KIND.", () -> kindRefused("degree"));
    holds("Promise 12: Its value with NUMBERS in place of x, L, E;", SentencesTest::values);
    holds("Promise 12: -1 if x or E is 0 (modulo 32003) where it would divide.", SentencesTest::valuesThatDivide);
    holds("Promise 13: Whether two are the same.", SentencesTest::same);
    holds("Promise 14: How many ELEMENTS there are.", SentencesTest::counted);
  }

  // The object under test: one at a time, with at most 512 calls, since the document promises no more.

  private static void fresh() {
    object = new TowerIntegrals();
    calls = 0;
  }

  private static TowerIntegrals t() {
    calls++;
    if (calls > 512) {
      throw new AssertionError("more than 512 calls on one object: " + sentence);
    }
    return object;
  }

  // Helpers.

  private static void holds(String words, Test test) {
    sentence = words;
    sentences++;
    int before = wrong;
    try {
      test.run();
    } catch (RuntimeException e) {
      wrong++;
      System.out.println(words + " - a call that is due to answer throws " + e);
    }
    if (wrong > before) {
      System.out.println("does not hold: " + words);
    }
  }

  private static void due(String what, Object got, Object want) {
    if (!got.equals(want)) {
      wrong++;
      if (wrong < 200) {
        System.out.println(sentence + " - " + what + " answered " + got + ", due is " + want);
      }
    }
  }

  /** What a call answers, or the very class of what it throws: the machine's own ones are others. */
  private static Object outcome(Call call) {
    try {
      return call.answer();
    } catch (RuntimeException e) {
      return e.getClass();
    }
  }

  private static int below(int bound) {
    seed = seed * 6364136223846793005L + 1442695040888963407L;
    return (int) Math.floorMod(seed >>> 33, (long) bound);
  }

  private static int mod(long v) {
    return (int) Math.floorMod(v, (long) P);
  }

  private static int over(long a, long b) {
    return mod(mod(a) * (long) power(b, -1));
  }

  private static int power(long base, int exponent) {
    return BigInteger.valueOf(base).modPow(BigInteger.valueOf(exponent), BigInteger.valueOf(P)).intValue();
  }

  private static int kindAt(int place) {
    return place / 9;
  }

  private static int powerAt(int place) {
    return place % 9 - 4;
  }

  private static int unit(int place, long v) {
    return t().term(kindAt(place), powerAt(place), v);
  }

  private static String named(int place) {
    return "kind " + kindAt(place) + ", n " + powerAt(place);
  }

  /** The kind that is L to the l, E to the e; -1 where none is. */
  private static int kindOf(int l, int e) {
    for (int kind = 0; kind < 8; kind++) {
      if (L_POWER[kind] == l && E_POWER[kind] == e) {
        return kind;
      }
    }
    return -1;
  }

  private static boolean isLog(int kind) {
    return L_POWER[kind] > 0;
  }

  private static boolean isExponential(int kind) {
    return E_POWER[kind] != 0;
  }

  private static int[] row(int kind, int n, long v) {
    return new int[] {kind, n, mod(v)};
  }

  /** That an element is the sum of these rows of kind, n, number (no place twice; a 0 is no term). */
  private static void isSum(String what, int f, int[]... rows) {
    int terms = 0;
    for (int[] row : rows) {
      due(what + ", at kind " + row[0] + ", n " + row[1], t().at(f, row[0], row[1]), row[2]);
      terms += row[2] == 0 ? 0 : 1;
    }
    due(what + ", terms", t().terms(f, -1), terms);
  }

  private static int[] snapshot(int f) {
    int[] all = new int[PLACES];
    for (int place = 0; place < PLACES; place++) {
      all[place] = t().at(f, kindAt(place), powerAt(place));
    }
    return all;
  }

  /** An element with 72 different numbers, 2 to the kind times an odd one; 33 handles. */
  private static int everything() {
    int low = t().add(t().term(ONE, -4, 1), t().term(ONE, -3, 3));
    int one = t().term(ONE, 0, 1);
    int more = t().times(low, t().add(one, t().term(ONE, 2, 5)));
    int most = t().times(more, t().add(one, t().term(ONE, 4, 7)));
    int all = t().add(most, t().term(ONE, 4, 9));
    int powers = all;
    for (int kind = 1; kind < 8; kind++) {
      all = t().add(all, t().times(powers, t().term(kind, 0, 1L << kind)));
    }
    return all;
  }

  private static int numberOfEverything(int place) {
    return (1 << kindAt(place)) * ODDS[place % 9];
  }

  /** A sum of some terms of kinds from first to last; takes 2 handles a term. */
  private static int someSum(int terms, int first, int last, int lowest, int highest) {
    int f = t().term(ONE, 0, 0);
    for (int i = 0; i < terms; i++) {
      int kind = first + below(last - first + 1);
      f = t().add(f, t().term(kind, lowest + below(highest - lowest + 1), below(P)));
    }
    return f;
  }

  private static void fillUpTo(int made) {
    while (t().count() < made) {
      t().term(ONE, 1, 1);
    }
  }

  // Calls that make a row of very different elements: the steps lean on one another.

  private static Object step(int step) {
    return switch (step) {
      case 0 -> t().term(ONE, 1, 2);
      case 1 -> t().term(E, -1, 3);
      case 2 -> t().term(LLL, -1, 4);
      case 3 -> t().term(EE, -4, 5);
      case 4 -> t().term(L, 4, -6);
      case 5 -> t().add(0, 1);
      case 6 -> t().less(4, 2, 7);
      case 7 -> t().times(0, 5);
      case 8 -> t().derive(7);
      case 9 -> t().integrate(0);
      case 10 -> t().times(9, 1);
      case 11 -> t().integrate(10);
      case 12 -> t().add(3, 6);
      case 13 -> t().less(12, 12, 1);
      case 14 -> t().term(EE_UNDER, 0, Long.MIN_VALUE);
      case 15 -> t().times(14, 3);
      case 16 -> t().derive(14);
      case 17 -> t().derive(11);
      case 18 -> t().times(13, 12);
      case 19 -> t().add(12, 17);
      case 20 -> t().term(LL, 0, P);
      case 21 -> t().integrate(20);
      case 22 -> t().less(19, 14, -1);
      default -> t().term(E_UNDER, 2, 1);
    };
  }

  private static void steps(int from, int to) {
    for (int i = from; i < to; i++) {
      due("step " + i, outcome(() -> step(t().count())), i);
    }
  }

  // Terms: words.

  private static void numbersOneByOne() {
    fresh();
    for (int v = 0; v < P; v++) {
      if (object.count() > 56 || calls > 490) {
        fresh();
      }
      int f = t().term(v % 8, v % 9 - 4, v);
      int up = t().term(v % 8, v % 9 - 4, v + (long) P * (v + 1));
      int down = t().term(v % 8, v % 9 - 4, v - (long) P * P * P);
      due("at of " + v, t().at(f, v % 8, v % 9 - 4), v);
      due(v + " and more", t().same(f, up), true);
      due(v + " and less", t().same(f, down), true);
      due("value of " + v, t().value(f, 1, 1, 1), v);
    }
    fresh();
    for (int i = 0; i < 50; i++) {
      below(9);
      long v = i % 2 == 0 ? seed : -seed;
      due("at of " + v, t().at(t().term(ONE, 0, v), ONE, 0), mod(v));
    }
  }

  private static void slopesOfLetters() {
    for (long v : new long[] {1, 2, 16001, P - 1}) {
      fresh();
      isSum("x'", t().derive(t().term(ONE, 1, v)), row(ONE, 0, v));
      isSum("L'", t().derive(t().term(L, 0, v)), row(ONE, -1, v));
      isSum("E'", t().derive(t().term(E, 0, v)), row(E, 0, v));
      isSum("a number's", t().derive(t().term(ONE, 0, v)));
    }
  }

  private static void kinds() {
    fresh();
    int[] made = new int[8];
    for (int kind = 0; kind < 8; kind++) {
      made[kind] = t().term(kind, 0, 1);
    }
    for (int l = 1; l < 6; l++) {
      for (int e = 2; e < 8; e++) {
        int[] due = {1, l, l * l, l * l * l, over(1, e * e), over(1, e), e, e * e};
        for (int kind = 0; kind < 8; kind++) {
          due("kind " + kind + " at L " + l + ", E " + e, t().value(made[kind], 9, l, e), due[kind]);
        }
      }
    }
  }

  private static void elementOfAllPlaces() {
    fresh();
    int f = everything();
    for (int place = 0; place < PLACES; place++) {
      due(named(place), t().at(f, kindAt(place), powerAt(place)), numberOfEverything(place));
    }
    int none = t().less(f, f, 1);
    for (int place = 0; place < PLACES; place++) {
      due("none, " + named(place), t().at(none, kindAt(place), powerAt(place)), 0);
    }
  }

  private static void slopeOfSums() {
    for (int first = 0; first < PLACES; first++) {
      for (int second = 0; second < PLACES; second++) {
        if (powerAt(first) > -4 && powerAt(second) > -4) {
          fresh();
          int f = unit(first, 5);
          int g = unit(second, -3);
          int slopes = t().add(t().derive(f), t().derive(g));
          due(named(first) + " and " + named(second), t().same(t().derive(t().add(f, g)), slopes), true);
        }
      }
    }
  }

  private static void slopeOfProducts() {
    for (int first = 0; first < PLACES; first++) {
      for (int second = 0; second < PLACES; second++) {
        int known = kindOf(L_POWER[kindAt(first)] + L_POWER[kindAt(second)],
            E_POWER[kindAt(first)] + E_POWER[kindAt(second)]);
        if (known >= 0 && Math.abs(powerAt(first)) < 2 && Math.abs(powerAt(second)) < 2) {
          fresh();
          int f = unit(first, 5);
          int g = unit(second, -3);
          int parts = t().add(t().times(t().derive(f), g), t().times(f, t().derive(g)));
          due(named(first) + " and " + named(second), t().same(t().derive(t().times(f, g)), parts), true);
        }
      }
    }
  }

  private static void handles() {
    fresh();
    steps(0, STEPS);
    for (int handle = STEPS; handle < 60; handle++) {
      due("count", t().count(), handle);
      due("handle", t().term(L, 1, handle), handle);
    }
    for (int handle = STEPS; handle < 60; handle++) {
      due("its number", t().at(handle, L, 1), handle);
    }
    due("the one past 59", outcome(() -> t().term(ONE, 0, 1)), STATE);
    due("the handle past 59", outcome(() -> t().at(60, L, 1)), INDEX);
  }

  // Terms: TOO FAR.

  private static void productsOfAllPlaces() {
    for (int first = 0; first < PLACES; first++) {
      for (int second = 0; second < PLACES; second++) {
        fresh();
        int f = unit(first, 3);
        int g = unit(second, P - 7);
        int n = powerAt(first) + powerAt(second);
        int kind = kindOf(L_POWER[kindAt(first)] + L_POWER[kindAt(second)],
            E_POWER[kindAt(first)] + E_POWER[kindAt(second)]);
        boolean far = kind < 0 || n < -4 || n > 4;
        Object got = outcome(() -> t().times(f, g));
        due(named(first) + " times " + named(second), got, far ? STATE : (Object) 2);
        due("count", t().count(), far ? 2 : 3);
        if (got.equals(2)) {
          isSum(named(first) + " times " + named(second), 2, row(kind, n, -21));
        }
        int one = t().term(ONE, 0, 1);
        due(named(first) + " times 1 behind it", t().same(t().times(f, one), f), true);
      }
    }
  }

  private static void slopesTooFar() {
    for (int place = 0; place < PLACES; place++) {
      fresh();
      int f = t().add(t().term(ONE, 2, 1), unit(place, P - 1));
      due(named(place), outcome(() -> t().derive(f)), powerAt(place) == -4 ? STATE : (Object) 3);
    }
  }

  private static void integralsTooFar() {
    for (int place = 0; place < PLACES; place++) {
      fresh();
      int kind = kindAt(place);
      int n = powerAt(place);
      int f = t().add(t().term(EE, 2, 1), unit(place, P - 1));
      boolean far = !isExponential(kind) && n == 4 || kind == LLL && n == -1;
      boolean hasRest = isExponential(kind) && n < 0;
      due(named(place), outcome(() -> t().integrate(f)), hasRest ? (Object) (-1) : far ? STATE : (Object) 3);
    }
  }

  private static void summedUp() {
    for (int place = 0; place < PLACES; place++) {
      fresh();
      int zero = unit(place, 0);
      int gone = t().add(unit(place, 8), unit(place, P - 8));
      int all = t().less(unit(place, 5), zero, 1);
      for (int nothing : new int[] {zero, gone}) {
        isSum("its slope, " + named(place), t().derive(nothing));
        isSum("its integral, " + named(place), t().integrate(nothing));
        isSum("its square, " + named(place), t().times(nothing, nothing));
        isSum("its product, " + named(place), t().times(all, nothing));
        isSum("its product with L L L, " + named(place), t().times(nothing, t().term(LLL, 4, 1)));
        isSum("its product with E E, " + named(place), t().times(t().term(EE, -4, 1), nothing));
      }
    }
    fresh();
    int plus = t().add(t().term(E, 2, 3), t().term(E_UNDER, 2, 3));
    int minus = t().less(t().term(E, 2, 3), t().term(E_UNDER, 2, 3), 1);
    isSum("(E + 1 / E) (E - 1 / E)", t().times(plus, minus), row(EE, 4, 9), row(EE_UNDER, 4, -9), row(ONE, 4, 0));
    int l = t().add(t().term(L, 1, 1), t().term(ONE, 2, 1));
    int other = t().less(t().term(L, 1, 1), t().term(ONE, 2, 1), 1);
    isSum("(x L + x x) (x L - x x)", t().times(l, other), row(LL, 2, 1), row(L, 3, 0), row(ONE, 4, -1));
  }

  private static void logMeetsExponential() {
    for (int first = 0; first < PLACES; first++) {
      for (int second = 0; second < PLACES; second++) {
        if (isLog(kindAt(first)) && isExponential(kindAt(second))) {
          logMeetsExponential(first, second);
        }
      }
    }
  }

  private static void logMeetsExponential(int first, int second) {
    fresh();
    String what = named(first) + " and " + named(second);
    int one = t().term(ONE, 0, 1);
    int log = t().add(one, unit(first, 1));
    int exponential = t().add(one, unit(second, 1));
    int both = t().add(log, unit(second, 2));
    int opposite = t().add(log, unit(second, -2));
    due(what, outcome(() -> t().times(log, exponential)), STATE);
    due(what + ", the other way", outcome(() -> t().times(exponential, log)), STATE);
    due(what + ", where they fall out", outcome(() -> t().times(both, opposite)), STATE);
    due(what + ", its square", outcome(() -> t().times(both, both)), STATE);
    due(what + ", within one alone", t().same(t().times(both, one), both), true);
    due(what + ", within the other alone", t().same(t().times(one, both), both), true);
  }

  // Terms: the REST and the INTEGRAL.

  private static void restBesideASlope() {
    for (int run = 0; run < 400; run++) {
      fresh();
      int kind = 4 + run % 4;
      int i = E_POWER[kind];
      int r = run < 40 ? run / 4 : below(P);
      int g = someSum(6, kind, kind, -3, 4);
      int slope = t().derive(g);
      int f = t().add(slope, t().term(kind, -1, r));
      due("rest of a slope, kind " + kind, t().rest(slope, kind), 0);
      due("rest of a slope and " + r + " / x, kind " + kind, t().rest(f, kind), r);
      int a = t().at(f, kind, -1) + i * t().at(f, kind, -2);
      int b = over((long) i * i * t().at(f, kind, -3), 2) + over((long) i * i * i * t().at(f, kind, -4), 6);
      due("rest by its four numbers, kind " + kind, r, mod((long) a + b));
      int others = t().less(f, t().add(t().term(L, -1, 5), t().term(11 - kind, -1, 9)), 1);
      due("rest beside other kinds, kind " + kind, t().rest(others, kind), r);
      due("the other kind's rest", t().rest(others, 11 - kind), P - 9);
      due("the integral of the slope", t().same(t().integrate(t().less(f, t().term(kind, -1, 1), r)), g), true);
    }
  }

  private static void justOneRest() {
    for (int kind = 4; kind < 8; kind++) {
      int due = -1;
      for (int r = 0; r < P; r++) {
        if (r % 40 == 0) {
          fresh();
          int low = t().add(t().term(kind, -4, 5), t().term(kind, -3, 7));
          int high = t().add(t().term(kind, -2, -11), t().term(kind, -1, 13));
          t().add(t().add(low, high), t().term(kind, 3, 2));
          t().term(kind, -1, 1);
          due = t().rest(8, kind);
        }
        int apart = t().less(8, 9, r);
        due("whether " + r + " is the rest, kind " + kind, t().rest(apart, kind) == 0, r == due);
        if (r != due) {
          due("integrate with " + r + ", kind " + kind, t().integrate(apart), -1);
        }
      }
      fresh();
      due("x^-4, whose slope is too far, kind " + kind, t().rest(t().term(kind, -4, 6), kind),
          mod(power(E_POWER[kind], 3)));
    }
  }

  private static void restOfLogs() {
    for (int place = 0; place < PLACES; place++) {
      fresh();
      int f = unit(place, 9);
      for (int kind = 0; kind < 4; kind++) {
        due(named(place) + ", kind " + kind, t().rest(f, kind), 0);
      }
    }
    fresh();
    int all = everything();
    for (int kind = 0; kind < 4; kind++) {
      due("of everything, kind " + kind, t().rest(all, kind), 0);
    }
  }

  private static void slopeOfTheIntegral() {
    for (int run = 0; run < 400; run++) {
      fresh();
      int f = t().add(t().derive(someSum(9, 0, 7, -3, 4)), t().term(run % 4, run % 3, below(P)));
      int integral = t().integrate(f);
      due("the slope of its integral, run " + run, t().same(t().derive(integral), f), true);
    }
  }

  private static void constantOfTheIntegral() {
    for (int run = 0; run < 400; run++) {
      fresh();
      int f = t().derive(t().add(someSum(9, 0, 7, -3, 4), t().term(ONE, 0, run)));
      due("its number at 0, run " + run, t().at(t().integrate(f), ONE, 0), 0);
    }
  }

  private static void justOneIntegral() {
    for (int run = 0; run < 400; run++) {
      fresh();
      int sum = someSum(9, 0, 7, -3, 4);
      int due = t().less(sum, t().term(ONE, 0, 1), t().at(sum, ONE, 0));
      int again = t().integrate(t().derive(sum));
      due("the integral of a slope, run " + run, t().same(again, due), true);
    }
  }

  // Terms: exceptions.

  private static List<Object> outcomesWithHandles(int f, int g) {
    List<Object> all = new ArrayList<>();
    all.add(outcome(() -> t().add(f, g)));
    all.add(outcome(() -> t().less(f, g, 1)));
    all.add(outcome(() -> t().times(f, g)));
    all.add(outcome(() -> t().same(f, g)));
    return all;
  }

  private static List<Object> outcomesWithHandle(int f) {
    List<Object> all = new ArrayList<>();
    all.add(outcome(() -> t().derive(f)));
    all.add(outcome(() -> t().integrate(f)));
    all.add(outcome(() -> t().rest(f, EE)));
    all.add(outcome(() -> t().at(f, ONE, 0)));
    all.add(outcome(() -> t().terms(f, -1)));
    all.add(outcome(() -> t().degree(f, ONE)));
    all.add(outcome(() -> t().value(f, 0, 0, 0)));
    return all;
  }

  private static void allAre(String what, List<Object> got, Object want) {
    for (int i = 0; i < got.size(); i++) {
      due(what + ", call " + i, got.get(i), want);
    }
  }

  private static void noSuchElement() {
    for (int made : new int[] {0, 1, 2, 30, 59, 60}) {
      int[] bad = {made, made + 1, 60, 61, -1, -2, -60, Integer.MIN_VALUE, Integer.MAX_VALUE, 1 << 24};
      for (int handle : bad) {
        fresh();
        fillUpTo(made);
        allAre(handle + " of " + made, outcomesWithHandle(handle), INDEX);
        allAre(handle + " of " + made + " twice", outcomesWithHandles(handle, handle), INDEX);
        if (made > 0) {
          allAre(handle + " of " + made + " as f", outcomesWithHandles(handle, made - 1), INDEX);
          allAre(handle + " of " + made + " as g", outcomesWithHandles(made - 1, handle), INDEX);
        }
        due("count", t().count(), made);
      }
    }
  }

  private static List<Object> outcomesOfMaking() {
    List<Object> all = new ArrayList<>();
    all.add(outcome(() -> t().term(ONE, 0, 0)));
    all.add(outcome(() -> t().add(0, 1)));
    all.add(outcome(() -> t().less(0, 1, 0)));
    all.add(outcome(() -> t().times(0, 1)));
    all.add(outcome(() -> t().derive(0)));
    all.add(outcome(() -> t().integrate(0)));
    return all;
  }

  private static void sixtyAreThere() {
    for (int made = 50; made <= 60; made++) {
      fresh();
      fillUpTo(made);
      List<Object> got = outcomesOfMaking();
      for (int i = 0; i < got.size(); i++) {
        due("with " + (made + i) + ", call " + i, got.get(i), made + i < 60 ? (Object) (made + i) : STATE);
      }
      due("count", t().count(), Math.min(60, made + 6));
    }
  }

  private static void newOneTooFar() {
    fresh();
    int high = t().term(ONE, 4, 1);
    int low = t().term(L, -4, 1);
    int l4 = t().term(LLL, -1, 1);
    int e = t().term(EE, 0, 1);
    due("times, x^8", outcome(() -> t().times(high, high)), STATE);
    due("times, L L / x^8", outcome(() -> t().times(low, low)), STATE);
    due("times, E^4", outcome(() -> t().times(e, e)), STATE);
    due("times, L E E", outcome(() -> t().times(low, e)), STATE);
    due("derive, L / x^5", outcome(() -> t().derive(low)), STATE);
    due("integrate, x^5", outcome(() -> t().integrate(high)), STATE);
    due("integrate, L^4", outcome(() -> t().integrate(l4)), STATE);
    due("count", t().count(), 4);
    due("the next one's handle", t().add(high, low), 4);
  }

  private static void noSuchKindOrPower() {
    termRefused();
    atRefused();
    for (String call : new String[] {"rest", "terms", "degree"}) {
      kindRefused(call);
    }
  }

  /** Every mix of what may be wrong with a call, with room for more and without. */
  private static void firstBehindThrows() {
    for (int made : new int[] {2, 60}) {
      for (int mix = 0; mix < 16; mix++) {
        fresh();
        t().term(ONE, 4, 1);
        t().term(E, -4, 1);
        fillUpTo(made);
        int f = (mix & 1) == 0 ? 0 : 60;
        int g = (mix & 2) == 0 ? 1 : -1;
        int kind = (mix & 4) == 0 ? LLL : 8;
        int n = (mix & 8) == 0 ? -4 : 5;
        Object one = f == 0 ? null : INDEX;
        Object two = f == 0 && g == 1 ? null : INDEX;
        Object argument = kind == LLL && n == -4 ? null : ARGUMENT;
        Object full = made == 60 ? STATE : null;
        String what = "mix " + mix + " of " + made + ": ";
        firstIs(what + "times, far", outcome(() -> t().times(f, f)), one, STATE);
        firstIs(what + "derive, far", outcome(() -> t().derive(g)), g == 1 ? null : INDEX, STATE);
        firstIs(what + "integrate, far", outcome(() -> t().integrate(f)), one, STATE);
        firstIs(what + "integrate, rest", outcome(() -> t().integrate(g)), g == 1 ? null : INDEX, full);
        firstIs(what + "rest", outcome(() -> t().rest(f, kind)), one, kind == LLL ? null : ARGUMENT);
        firstIs(what + "at", outcome(() -> t().at(f, kind, n)), one, argument);
        firstIs(what + "terms", outcome(() -> t().terms(f, kind)), one, kind == LLL ? null : ARGUMENT);
        firstIs(what + "degree", outcome(() -> t().degree(f, kind)), one, kind == LLL ? null : ARGUMENT);
        firstIs(what + "value", outcome(() -> t().value(f, 0, 0, 0)), one, null);
        firstIs(what + "same", outcome(() -> t().same(f, g)), two, null);
        due(what + "count", t().count(), made);
        firstIs(what + "term", outcome(() -> t().term(kind, n, 1)), argument, full);
        firstIs(what + "add", outcome(() -> t().add(f, g)), two, full);
        firstIs(what + "less", outcome(() -> t().less(f, g, 1)), two, full);
        firstIs(what + "times", outcome(() -> t().times(f, g)), two, full);
      }
    }
  }

  private static void firstIs(String what, Object got, Object first, Object second) {
    Object want = first != null ? first : second;
    if (want != null) {
      due(what, got, want);
    } else {
      due(what + " is no exception", got instanceof Class, false);
    }
  }

  /** Calls that make nothing: refused ones, and those that only ask. At least 6 steps are done. */
  private static List<Object> outcomesWithoutMaking() {
    int made = t().count();
    List<Object> all = new ArrayList<>();
    all.add(outcome(() -> t().term(8, 0, 1)));
    all.add(outcome(() -> t().term(0, 5, 1)));
    all.add(outcome(() -> t().add(0, made)));
    all.add(outcome(() -> t().less(-1, 0, 1)));
    all.add(outcome(() -> t().times(made, 0)));
    all.add(outcome(() -> t().times(2, 3)));
    all.add(outcome(() -> t().times(4, 4)));
    all.add(outcome(() -> t().times(3, 3)));
    all.add(outcome(() -> t().derive(3)));
    all.add(outcome(() -> t().derive(-1)));
    all.add(outcome(() -> t().integrate(2)));
    all.add(outcome(() -> t().integrate(4)));
    all.add(outcome(() -> t().integrate(made)));
    all.add(outcome(() -> t().rest(0, 8)));
    all.add(outcome(() -> t().at(0, 0, 5)));
    all.add(outcome(() -> t().terms(0, -2)));
    all.add(outcome(() -> t().degree(0, -1)));
    all.add(outcome(() -> t().value(made, 1, 1, 1)));
    all.add(outcome(() -> t().same(0, made)));
    for (int i = 0; i < all.size(); i++) {
      due("call " + i + " is refused", all.get(i) instanceof Class, true);
    }
    due("integrate with a rest", outcome(() -> t().integrate(1)), made < 60 ? (Object) (-1) : STATE);
    t().rest(3, EE);
    t().terms(made - 1, -1);
    t().degree(made - 1, L);
    t().value(made - 1, 2, 3, 5);
    due("value", t().value(1, 0, 0, 0), -1);
    t().same(0, made - 1);
    due("count", t().count(), made);
    return all;
  }

  /** Twins: one with calls between the steps that make nothing, the other one with the steps alone. */
  private static void nothingChanges() {
    for (int handle = 0; handle < STEPS; handle++) {
      fresh();
      steps(0, STEPS);
      int[] due = snapshot(handle);
      fresh();
      steps(0, 6);
      for (int step = 6; step < STEPS; step += 3) {
        outcomesWithoutMaking();
        steps(step, step + 3);
      }
      due("numbers of " + handle, Arrays.equals(snapshot(handle), due), true);
      due("count", t().count(), STEPS);
    }
  }

  private static void nothingChangesWithSixty() {
    for (int handle = 0; handle < 60; handle++) {
      fresh();
      steps(0, STEPS);
      fillUpTo(60);
      int[] due = snapshot(handle);
      List<Object> first = outcomesWithoutMaking();
      allAre("making with 60", outcomesOfMaking(), STATE);
      due("numbers of " + handle, Arrays.equals(snapshot(handle), due), true);
      due("the same calls again", outcomesWithoutMaking(), first);
      due("count", t().count(), 60);
    }
  }

  private static void oldOnesStay() {
    for (int handle = 0; handle < STEPS; handle++) {
      fresh();
      steps(0, handle + 1);
      int[] due = snapshot(handle);
      steps(handle + 1, STEPS);
      due("numbers of " + handle, Arrays.equals(snapshot(handle), due), true);
      fillUpTo(60);
      due("numbers of " + handle + " beside 60", Arrays.equals(snapshot(handle), due), true);
    }
  }

  // Promises 1 to 7.

  private static void newObject() {
    fresh();
    due("count", t().count(), 0);
    allAre("with f 0", outcomesWithHandle(0), INDEX);
    allAre("with f 0, g 0", outcomesWithHandles(0, 0), INDEX);
    due("count behind them", t().count(), 0);
    TowerIntegrals first = object;
    steps(0, STEPS);
    fresh();
    due("count of another one", t().count(), 0);
    due("its first handle", t().term(EE, 4, 1), 0);
    due("its first element", t().at(0, EE, 4), 1);
    due("count of the first one", first.count(), STEPS);
    due("the first one's first element", first.at(0, EE, 4), 0);
  }

  private static void termOfAllPlaces() {
    for (int place = 0; place < PLACES; place++) {
      for (long v : new long[] {1, -1, 2L * P + 5, Long.MAX_VALUE, Long.MIN_VALUE, 0}) {
        fresh();
        due("handle", unit(place, v), 0);
        int[] due = new int[PLACES];
        due[place] = mod(v);
        due(v + " at " + named(place), Arrays.equals(snapshot(0), due), true);
      }
    }
  }

  private static void termRefused() {
    for (int kind = -20; kind <= 20; kind++) {
      for (int n = -20; n <= 20; n++) {
        fresh();
        boolean there = kind >= 0 && kind < 8 && n >= -4 && n <= 4;
        int k = kind;
        int m = n;
        due("kind " + kind + ", n " + n, outcome(() -> t().term(k, m, 0)), there ? (Object) 0 : ARGUMENT);
        due("count", t().count(), there ? 1 : 0);
      }
    }
    for (int far : FAR_OFF) {
      fresh();
      due("kind " + far, outcome(() -> t().term(far, 0, 1)), ARGUMENT);
      due("n " + far, outcome(() -> t().term(0, far, 1)), ARGUMENT);
      due("both " + far, outcome(() -> t().term(far, far, 1)), ARGUMENT);
      due("count", t().count(), 0);
    }
  }

  private static void sum() {
    fresh();
    int all = everything();
    int g = t().less(t().times(t().term(ONE, 0, P - 2), all), t().term(EE, 4, 1), 1);
    int sum = t().add(all, g);
    int turned = t().add(g, all);
    for (int place = 0; place < PLACES; place++) {
      int due = mod(-numberOfEverything(place) - (place == PLACES - 1 ? 1 : 0));
      due(named(place), t().at(sum, kindAt(place), powerAt(place)), due);
    }
    due("g and f", t().same(sum, turned), true);
    due("with itself", t().same(t().add(all, all), t().less(all, all, -1)), true);
    due("with nothing", t().same(t().add(all, t().term(LL, 3, 0)), all), true);
    due("with its opposite", t().terms(t().add(all, t().less(all, all, 2)), -1), 0);
  }

  private static void less() {
    for (long v : new long[] {0, 1, 2, -1, P, P - 1, -P, 1L - P, 77_777_777_777L, Long.MAX_VALUE, Long.MIN_VALUE}) {
      fresh();
      int all = everything();
      int g = t().add(all, t().term(ONE, -4, 100));
      int less = t().less(all, g, v);
      for (int place = 0; place < PLACES; place++) {
        long a = numberOfEverything(place);
        long b = a + (place == 0 ? 100 : 0);
        due("v " + v + ", " + named(place), t().at(less, kindAt(place), powerAt(place)), mod(a - mod(v) * b));
      }
    }
  }

  private static void product() {
    fresh();
    int f = t().add(t().add(t().term(ONE, 1, 2), t().term(E, 0, 3)), t().term(E_UNDER, -2, 5));
    int g = t().add(t().add(t().term(ONE, -2, 7), t().term(E, 1, -1)), t().term(E_UNDER, 2, 11));
    int[][] due = {row(ONE, -1, 14 - 5), row(ONE, 2, 33), row(E, 2, -2), row(E, -2, 21), row(E_UNDER, 3, 22),
        row(E_UNDER, -4, 35), row(EE, 1, -3), row(EE_UNDER, 0, 55)};
    isSum("of exponentials", t().times(f, g), due);
    isSum("of exponentials, turned", t().times(g, f), due);
    int l = t().add(t().add(t().term(ONE, -1, 2), t().term(L, 0, 3)), t().term(LL, 1, 5));
    int m = t().add(t().term(ONE, 1, -1), t().term(L, 2, 4));
    isSum("of logs", t().times(l, m), row(ONE, 0, -2), row(L, 1, 8 - 3), row(LL, 2, 12 - 5), row(LLL, 3, 20));
    for (int run = 0; run < 300; run++) {
      fresh();
      int first = run % 2 == 0 ? someSum(5, 0, 2, -3, 2) : someSum(5, 4, 6, -3, 2);
      int second = run % 2 == 0 ? someSum(2, 0, 1, -1, 2) : someSum(2, 6, 6, -1, 2);
      int made = t().times(first, second);
      int x = 1 + below(P - 1);
      int e = 1 + below(P - 1);
      int values = mod((long) t().value(first, x, run, e) * t().value(second, x, run, e));
      due("its value, run " + run, t().value(made, x, run, e), values);
      due("turned, run " + run, t().same(t().times(second, first), made), true);
    }
  }

  private static void slope() {
    for (int place = 0; place < PLACES; place++) {
      for (long v : new long[] {1, P - 1, 12345}) {
        int kind = kindAt(place);
        int n = powerAt(place);
        if (n > -4) {
          fresh();
          int slope = t().derive(unit(place, v));
          List<int[]> rows = new ArrayList<>();
          rows.add(row(kind, n - 1, n * v));
          rows.add(row(kind, n, E_POWER[kind] * v));
          if (isLog(kind)) {
            rows.add(row(kind - 1, n - 1, L_POWER[kind] * v));
          }
          isSum(v + " at " + named(place), slope, rows.toArray(new int[0][]));
        }
      }
    }
  }

  private static void integral() {
    for (int n = -4; n <= 3; n++) {
      if (n != -1) {
        fresh();
        long m = n + 1;
        isSum("x^" + n, t().integrate(t().term(ONE, n, 1)), row(ONE, n + 1, over(1, m)));
        isSum("x^" + n + " L", t().integrate(t().term(L, n, 1)),
            row(L, n + 1, over(1, m)), row(ONE, n + 1, over(-1, m * m)));
        isSum("x^" + n + " LL", t().integrate(t().term(LL, n, 1)),
            row(LL, n + 1, over(1, m)), row(L, n + 1, over(-2, m * m)), row(ONE, n + 1, over(2, m * m * m)));
        isSum("x^" + n + " LLL", t().integrate(t().term(LLL, n, 1)),
            row(LLL, n + 1, over(1, m)), row(LL, n + 1, over(-3, m * m)),
            row(L, n + 1, over(6, m * m * m)), row(ONE, n + 1, over(-6, m * m * m * m)));
      }
    }
    fresh();
    isSum("1 / x", t().integrate(t().term(ONE, -1, 6)), row(L, 0, 6));
    isSum("L / x", t().integrate(t().term(L, -1, 6)), row(LL, 0, 3));
    isSum("LL / x", t().integrate(t().term(LL, -1, 6)), row(LLL, 0, 2));
    for (int kind = 4; kind < 8; kind++) {
      for (int n = 0; n <= 4; n++) {
        fresh();
        int i = E_POWER[kind];
        List<int[]> rows = new ArrayList<>();
        int number = over(1, i);
        for (int m = n; m >= 0; m--) {
          rows.add(row(kind, m, number));
          number = over(-(long) m * number, i);
        }
        isSum("x^" + n + ", kind " + kind, t().integrate(t().term(kind, n, 1)), rows.toArray(new int[0][]));
      }
    }
  }

  private static void integralWithARest() {
    for (int place = 0; place < PLACES; place++) {
      fresh();
      int f = t().add(t().term(E_UNDER, 1, 4), unit(place, 1));
      boolean hasRest = isExponential(kindAt(place)) && powerAt(place) < 0;
      Object got = outcome(() -> t().integrate(f));
      due(named(place), got.equals(-1), hasRest);
      due("count, " + named(place), t().count(), got instanceof Integer && !hasRest ? 4 : 3);
      int rests = 0;
      for (int kind = 0; kind < 8; kind++) {
        rests += t().rest(f, kind) != 0 ? 1 : 0;
      }
      due("how many rests, " + named(place), rests, hasRest ? 1 : 0);
    }
    for (int kind = 4; kind < 8; kind++) {
      fresh();
      int f = t().add(t().term(kind, -1, E_POWER[kind]), t().term(kind, -2, -1));
      int again = t().add(f, t().term(11 - kind, -1, 1));
      due("rests that are 0, kind " + kind, t().rest(f, kind), 0);
      isSum("its integral", t().integrate(f), row(kind, -1, 1));
      due("beside one that isn't", t().integrate(again), -1);
      due("the handle behind it", t().term(ONE, 0, 0), t().count() - 1);
    }
  }

  private static void restBehindSixty() {
    for (int kind = 4; kind < 8; kind++) {
      fresh();
      int f = t().term(kind, -1, 1);
      for (int made = 1; made < 60; made++) {
        due("with " + made, outcome(() -> t().integrate(f)), -1);
        t().term(ONE, 0, 1);
      }
      due("with 60", outcome(() -> t().integrate(f)), STATE);
      due("its rest with 60", t().rest(f, kind), 1);
    }
  }

  private static void restAheadOfTooFar() {
    for (int kind = 4; kind < 8; kind++) {
      for (int[] far : new int[][] {{ONE, 4}, {L, 4}, {LL, 4}, {LLL, 4}, {LLL, -1}}) {
        fresh();
        int tooFar = t().add(t().term(far[0], far[1], 1), t().term(kind, 1, 1));
        due("without a rest", outcome(() -> t().integrate(tooFar)), STATE);
        int withRest = t().add(tooFar, t().term(kind, -3, 1));
        due("with one", outcome(() -> t().integrate(withRest)), -1);
      }
    }
  }

  // Promises 8 to 14.

  private static void restOfAllPlaces() {
    for (int place = 0; place < PLACES; place++) {
      fresh();
      int f = unit(place, 12);
      int i = E_POWER[kindAt(place)];
      int[] low = {2 * i * i * i, 6 * i * i, 12 * i, 12};
      boolean hasRest = isExponential(kindAt(place)) && powerAt(place) < 0;
      for (int kind = 0; kind < 8; kind++) {
        boolean here = hasRest && kind == kindAt(place);
        due(named(place) + ", kind " + kind, t().rest(f, kind), here ? mod(low[powerAt(place) + 4]) : 0);
      }
    }
  }

  private static Object asked(String call, int f, int kind) {
    return switch (call) {
      case "rest" -> t().rest(f, kind);
      case "terms" -> t().terms(f, kind);
      default -> t().degree(f, kind);
    };
  }

  private static void kindRefused(String call) {
    fresh();
    int f = t().term(E, 0, 1);
    for (int kind = -100; kind <= 100; kind++) {
      int k = kind;
      boolean there = kind >= 0 && kind < 8 || kind == -1 && call.equals("terms");
      due(call + " of kind " + kind, outcome(() -> asked(call, f, k)) == ARGUMENT, !there);
    }
    for (int far : FAR_OFF) {
      due(call + " of kind " + far, outcome(() -> asked(call, f, far)), ARGUMENT);
    }
  }

  private static void atRefused() {
    for (int kind = -20; kind <= 20; kind++) {
      fresh();
      t().term(E, 0, 1);
      t().term(E, 0, 1);
      for (int n = -20; n <= 20; n++) {
        boolean there = kind >= 0 && kind < 8 && n >= -4 && n <= 4;
        int k = kind;
        int m = n;
        due("kind " + kind + ", n " + n, outcome(() -> t().at(1, k, m)) == ARGUMENT, !there);
      }
    }
    fresh();
    t().term(ONE, 0, 1);
    for (int far : FAR_OFF) {
      due("kind " + far, outcome(() -> t().at(0, far, 0)), ARGUMENT);
      due("n " + far, outcome(() -> t().at(0, 0, far)), ARGUMENT);
    }
  }

  private static void termsCounted() {
    for (int handle = 0; handle < STEPS; handle++) {
      fresh();
      steps(0, STEPS);
      int[] all = snapshot(handle);
      int found = 0;
      for (int kind = 0; kind < 8; kind++) {
        int ofKind = 0;
        for (int n = 0; n < 9; n++) {
          ofKind += all[kind * 9 + n] != 0 ? 1 : 0;
        }
        due("of kind " + kind + " of " + handle, t().terms(handle, kind), ofKind);
        found += ofKind;
      }
      due("of all of " + handle, t().terms(handle, -1), found);
    }
    fresh();
    int f = everything();
    due("of everything", t().terms(f, -1), PLACES);
    for (int kind = 0; kind < 8; kind++) {
      due("of everything, kind " + kind, t().terms(f, kind), 9);
    }
  }

  private static void degrees() {
    for (int place = 0; place < PLACES; place++) {
      for (int lower = -4; lower <= powerAt(place); lower++) {
        fresh();
        int f = t().add(unit(place, 7), t().term(kindAt(place), lower, 9));
        for (int kind = 0; kind < 8; kind++) {
          due(named(place) + ", kind " + kind, t().degree(f, kind), kind == kindAt(place) ? powerAt(place) : -5);
        }
        int gone = t().less(f, unit(place, t().at(f, kindAt(place), powerAt(place))), 1);
        due("without its first, " + named(place), t().degree(gone, kindAt(place)),
            lower < powerAt(place) ? lower : -5);
      }
    }
  }

  private static int termsValue(int place, int v, long x, long l, long e) {
    int kind = kindAt(place);
    long inKind = (long) power(l, L_POWER[kind]) * power(e, E_POWER[kind]) % P;
    return mod(inKind * power(x, powerAt(place)) % P * v);
  }

  private static void values() {
    long[][] points = {{1, 1, 1}, {2, 3, 5}, {-2, -3, -5}, {P + 2L, 0, P - 1}, {16001, 31999, 7777},
        {Long.MAX_VALUE, Long.MIN_VALUE, Long.MAX_VALUE - 1}, {Long.MIN_VALUE, Long.MAX_VALUE, Long.MIN_VALUE}};
    for (long[] at : points) {
      long all = 0;
      for (int place = 0; place < PLACES; place++) {
        fresh();
        due(named(place) + " at " + Arrays.toString(at), t().value(unit(place, 31999), at[0], at[1], at[2]),
            termsValue(place, 31999, at[0], at[1], at[2]));
        all += termsValue(place, numberOfEverything(place), at[0], at[1], at[2]);
      }
      fresh();
      due("everything at " + Arrays.toString(at), t().value(everything(), at[0], at[1], at[2]), mod(all));
      due("nothing at " + Arrays.toString(at), t().value(t().term(E, 1, 0), at[0], at[1], at[2]), 0);
    }
  }

  private static void valuesThatDivide() {
    long[] some = {0, P, -3L * P, 1, P - 1};
    for (int first = 0; first < PLACES; first++) {
      for (int second = 0; second < PLACES; second += 5) {
        fresh();
        int f = t().add(unit(first, 3), first == second ? t().term(0, 0, 0) : unit(second, 8));
        for (long x : some) {
          for (long e : some) {
            boolean divides = divides(first, x, e) || divides(second, x, e);
            int due = divides ? -1 : mod(termsValue(first, 3, x, 2, e)
                + (first == second ? 0L : termsValue(second, 8, x, 2, e)));
            due(named(first) + " and " + named(second) + " at x " + x + ", E " + e, t().value(f, x, 2, e), due);
          }
        }
        int nothing = t().less(f, f, 1);
        due("nothing that divides", t().value(nothing, 0, 0, 0), 0);
      }
    }
  }

  private static boolean divides(int place, long x, long e) {
    return powerAt(place) < 0 && x % P == 0 || E_POWER[kindAt(place)] < 0 && e % P == 0;
  }

  private static void same() {
    int[][] all = new int[STEPS][];
    for (int handle = 0; handle < STEPS; handle++) {
      fresh();
      steps(0, STEPS);
      all[handle] = snapshot(handle);
    }
    for (int f = 0; f < STEPS; f++) {
      fresh();
      steps(0, STEPS);
      for (int g = 0; g < STEPS; g++) {
        due(f + " and " + g, t().same(f, g), Arrays.equals(all[f], all[g]));
        due(g + " and " + f, t().same(g, f), Arrays.equals(all[f], all[g]));
      }
    }
    for (int place = 0; place < PLACES; place++) {
      fresh();
      int f = everything();
      int other = t().add(f, unit(place, P - 1));
      due("but for " + named(place), t().same(f, other), false);
      due("again with " + named(place), t().same(f, t().add(other, unit(place, 1))), true);
    }
  }

  private static void counted() {
    fresh();
    for (int step = 0; step < STEPS; step++) {
      due("count", t().count(), step);
      due("count again", t().count(), step);
      steps(step, step + 1);
      t().at(step, 0, 0);
      due("refused", outcome(() -> t().derive(-1)), INDEX);
      due("count behind a step", t().count(), step + 1);
    }
    for (int made = STEPS; made < 60; made++) {
      t().term(ONE, 0, 0);
      due("count", t().count(), made + 1);
    }
    due("one more", outcome(() -> t().term(ONE, 0, 0)), STATE);
    due("count of all", t().count(), 60);
  }
}
