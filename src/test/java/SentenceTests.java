import java.util.Random;
import java.util.Set;
import java.util.TreeSet;

/**
 * Sentences that name no boundary, but tell what a call may answer at all, or how one call's answers hang together with
 * another's. The latter are looked up in drawn arches, by the public face alone.
 */
public final class SentenceTests extends Boundary {
  private static final int[] WILD = {LEAST, -1001, -21, -1, 0, 1, 2, 3, 6, 7, 20, 28, 1001, GREATEST};

  public static void main(String[] args) throws IllegalAccessException { new SentenceTests().runAll(); }

  private void holds(String what, boolean holds) { is(what, holds ? 1 : 0, 1); }

  private static long commonDivisor(long a, long b) { return b == 0 ? Math.abs(a) : commonDivisor(b, a % b); }

  /** Whether a by b is less than c by d, where b or d is above 0, or NONE, which is more than all others. */
  private static boolean isLess(long a, long b, long c, long d) {
    if (b == NONE || d == NONE) return b != NONE;
    return a * d < c * b;
  }

  private void drawnArchesAreOfAllKinds() {
    says("The arch STANDS, if some LINE FITS.");
    int stand = 0, three = 0, four = 0, push = 0, none = 0, straight = 0;
    for (DrawnArch drawn : DrawnArch.all()) {
      StandingArch arch = drawn.made();
      if (arch.stands() == 1) stand++;
      if (arch.bar(-1) == 3) three++;
      if (arch.bar(-1) == 4 && arch.bar(3) != 14) four++;
      if (arch.bar(-1) == 4 && arch.bar(3) == 14) push++;
      if (arch.factor(0) == NONE) none++;
      if (arch.falls() == NONE) straight++;
    }
    int[] kinds = {stand, three, four, push, none, straight};
    for (int kind = 0; kind < kinds.length; kind++) holds("kind " + kind + ": " + kinds[kind] + " of them", kinds[kind] > 10);
  }

  // ---- what a call may answer

  private void eachCallAnswersWhatItsPromiseNames() {
    says("Refusals are answers");
    for (int kind = 0; kind < 4; kind++) {
      for (int a : WILD) {
        oneNumber(kind, a);
        for (int b : WILD) {
          twoNumbers(kind, a, b);
          for (int c : WILD) {
            threeNumbers(kind, a, b, c);
            for (int d : WILD) fourNumbers(kind, a, b, c, d);
          }
        }
      }
      named("stands()", object(kind).stands(), 0, 1);
      named("falls()", object(kind).falls(), 0, 3, NONE);
    }
  }

  /** A new object, one that stands with rows in its SHEETS, one that does not stand, and one that has all there may be. */
  private static StandingArch object(int kind) {
    StandingArch arch = new StandingArch();
    if (kind == 1) Arches.furnish(arch);
    if (kind == 2) Arches.furnishBarred(arch);
    if (kind == 3) arch.joints(6);
    for (int s = 0; kind == 3 && s < 4; s++) arch.sheet(s, s % 3, 28);
    for (int i = 1; kind == 3 && i < 6; i++) arch.load(i, 10);
    return arch;
  }

  /** That the answer lies between two numbers, or is one of the refusals. */
  private void named(String call, long got, long from, long to, long... refusals) {
    boolean isNamed = got >= from && got <= to;
    for (long refusal : refusals) isNamed |= got == refusal;
    holds(call + " answers " + got, isNamed);
  }

  private void oneNumber(int kind, int a) {
    named("joints(" + a + ")", object(kind).joints(a), 1, 1, BAD);
    named("drop(" + a + ")", object(kind).drop(a), 0, 28, BAD, NULL);
    named("bar(" + a + ")", object(kind).bar(a), 0, 14, BAD, NOT);
    named("factor(" + a + ")", object(kind).factor(a), 0, GREATEST, BAD, NONE);
    named("harms(" + a + ")", object(kind).harms(a), 1, 5, BAD);
    named("spread(" + a + ")", object(kind).spread(a), 1, 1, BAD, NOT);
  }

  private void twoNumbers(int kind, int a, int b) {
    String numbers = "(" + a + ", " + b + ")";
    named("at" + numbers, object(kind).at(a, b), 1, 20, BAD, NOT);
    named("load" + numbers, object(kind).load(a, b), 0, 10, BAD);
    named("told" + numbers, object(kind).told(a, b), -20, 10000, TOLD_BAD);
    named("thrust" + numbers, object(kind).thrust(a, b), 1, GREATEST, BAD, NOT, NONE);
    named("height" + numbers, object(kind).height(a, b), LEAST, GREATEST, HEIGHT_BAD, HEIGHT_NOT, HEIGHT_NONE);
  }

  private void threeNumbers(int kind, int a, int b, int c) {
    String numbers = "(" + a + ", " + b + ", " + c + ")";
    named("edges" + numbers, object(kind).edges(a, b, c), 1, 1, BAD);
    named("sheet" + numbers, object(kind).sheet(a, b, c), 0, 28, BAD, SIZE);
    named("read" + numbers, object(kind).read(a, b, c), 1, 1, BAD, NULL, CAST, INDEX, NOT);
  }

  private void fourNumbers(int kind, int a, int b, int c, int d) {
    String numbers = "(" + a + ", " + b + ", " + c + ", " + d + ")";
    named("item" + numbers, object(kind).item(a, b, c, d), 1, 1, BAD, NULL, CAST, INDEX);
    named("fits" + numbers, object(kind).fits(a, b, c, d), 0, 1, BAD);
  }

  private void laterCallsAreFreeButNothingIsThrown() {
    says("what later calls answer is free");
    StandingArch arch = new StandingArch();
    for (int turn = 0; turn < 400; turn++) {
      arch.joints(2 + turn % 5);
      for (int i = 0; i <= 7; i++) arch.load(i, (turn + i) % 11);
      Arches.put(arch, turn % 4, turn % 3, 0, 1, 2, 3);
      arch.harms(1 + turn % 10);
      arch.height(turn % 7, turn % 2);
      arch.bar(turn % 4);
    }
    holds("all calls came back", true);
  }

  // ---- lines

  private void aLineHasItsHeightsAtTheEnds() {
    says("A LINE is told by a, b (its height at joints 0, n) and k");
    for (int a = -20; a <= 20; a += 8) {
      for (int b = -20; b <= 20; b += 8) {
        StandingArch arch = Arches.arch(new int[] {a, -20, -20, b}, new int[] {a, 20, 20, b}, new int[] {0, 3, 10, 0});
        is(a + ", " + b + " fits", arch.fits(a, b, 0, 1), 1);
        is(a + ", " + b + " fits, the other way round", arch.fits(b, a, 0, 1), a == b ? 1 : 0);
        fraction("the least's height at 0", arch.height(0, 0), arch.height(0, 1), a, 1);
        fraction("the least's height at n", arch.height(3, 0), arch.height(3, 1), b, 1);
      }
    }
  }

  private void mIsTheDocumentsSum() {
    says("m(i) being x(i) times the sum over all inner joints j of w(j) (L - x(j))");
    for (DrawnArch drawn : DrawnArch.all()) {
      StandingArch arch = drawn.made();
      for (int i = 0; i <= drawn.n; i++) is(drawn + ": m(" + i + ")", arch.told(i, 4), drawn.m(i));
    }
  }

  private void theLineOfTheLeastIsALineThatFits() {
    says("its height at joint i is (a (L - x(i)) + b x(i) + m(i) k) by L");
    for (DrawnArch drawn : DrawnArch.all()) {
      StandingArch arch = drawn.made();
      if (arch.height(0, 1) < 0) continue;
      boolean isStraight = arch.thrust(0, 0) == NONE;
      long k = isStraight ? 0 : arch.thrust(0, 1), kBelow = isStraight ? 1 : arch.thrust(0, 0), far = drawn.x[drawn.n];
      long a = arch.height(0, 0), aBelow = arch.height(0, 1), b = arch.height(drawn.n, 0), bBelow = arch.height(drawn.n, 1);
      for (int i = 0; i <= drawn.n; i++) {
        long y = arch.height(i, 0), below = arch.height(i, 1);
        holds(drawn + ": a fraction at " + i, below > 0 && commonDivisor(y, below) == 1);
        holds(drawn + ": within the stones at " + i, y >= drawn.l[i] * below && y <= drawn.u[i] * below);
        long chord = a * bBelow * (far - drawn.x[i]) + b * aBelow * drawn.x[i];
        long line = chord * kBelow + drawn.m(i) * k * aBelow * bBelow;
        is(drawn + ": height of " + i, y * aBelow * bBelow * kBelow * far, line * below);
      }
    }
  }

  private void whatFitsStands() {
    says("The arch STANDS, if some LINE FITS.");
    Random random = new Random(5);
    int found = 0;
    for (DrawnArch drawn : DrawnArch.all()) {
      StandingArch arch = drawn.made();
      long least = arch.thrust(0, 0), leastBelow = arch.thrust(0, 1), most = arch.thrust(1, 0), mostBelow = arch.thrust(1, 1);
      for (int turn = 0; turn < 60; turn++) {
        int a = drawn.l[0] + random.nextInt(3), b = drawn.l[drawn.n] + random.nextInt(3);
        int above = random.nextInt(40), below = 1 + random.nextInt(100);
        if (arch.fits(a, b, above, below) != 1) continue;
        found++;
        is(drawn + ": stands", arch.stands(), 1);
        holds(drawn + ": not below the least", least == NONE || above * least <= below * leastBelow);
        holds(drawn + ": not above the most", most == NONE || above * most >= below * mostBelow);
      }
    }
    holds(found + " lines that fit", found > 100);
  }

  private void thrustsAre1ByK() {
    says("THRUSTS are 1 by k");
    for (DrawnArch drawn : DrawnArch.all()) {
      DrawnArch heavy = drawn.copy();
      for (int i = 1; i < drawn.n; i++) {
        drawn.w[i] /= 2;
        heavy.w[i] = 2 * drawn.w[i];
      }
      StandingArch arch = drawn.made(), twice = heavy.made();
      is(heavy + ": stands as with half the loads", twice.stands(), arch.stands());
      for (int which = 0; which < 2; which++) {
        long above = arch.thrust(which, 0), below = arch.thrust(which, 1);
        if (above < 0) is(heavy + ": no thrust " + which, twice.thrust(which, 0), above);
        else is(heavy + ": half of k, twice the thrust", twice.thrust(which, 0) * below, 2 * above * twice.thrust(which, 1));
      }
    }
  }

  private void thrustsAreFractions() {
    says("They are fractions.");
    for (DrawnArch drawn : DrawnArch.all()) {
      StandingArch arch = drawn.made();
      for (int which = 0; which < 2; which++) {
        long above = arch.thrust(which, 0), below = arch.thrust(which, 1);
        if (above < 0) is(drawn + ": both parts are refused alike", below, above);
        else holds(drawn + ": above 0, without a common divisor", below > 0 && commonDivisor(above, below) == 1);
      }
      if (arch.thrust(0, 0) < 0 || arch.thrust(1, 0) < 0) continue;
      holds(drawn + ": the most is not below the least", !isLess(arch.thrust(1, 0), arch.thrust(1, 1), arch.thrust(0, 0), arch.thrust(0, 1)));
    }
  }

  private void barsBarByThemselves() {
    says("of those sets of up to 4 edges that no LINE (k may be below 0 without 14) keeps");
    for (DrawnArch drawn : DrawnArch.all()) {
      StandingArch arch = drawn.made();
      if (arch.stands() == 1) continue;
      int count = arch.bar(-1);
      Set<Integer> bars = new TreeSet<>();
      for (int i = 0; i < count; i++) {
        holds(drawn + ": the least first", i == 0 || arch.bar(i) > arch.bar(i - 1));
        bars.add(arch.bar(i));
      }
      // Edges that do not bar are moved out of the way, as far as they can be: what bars then barred before.
      DrawnArch open = drawn.copy();
      for (int i = 0; i <= drawn.n; i++) {
        if (!bars.contains(2 * i)) open.l[i] = -20;
        if (!bars.contains(2 * i + 1)) open.u[i] = 20;
      }
      StandingArch alone = open.made();
      is(open + ": as many bar", alone.bar(-1), count);
      for (int i = 0; i < count; i++) is(open + ": bar " + i, alone.bar(i), arch.bar(i));
    }
  }

  // ---- what may become of it

  private void whatStandsHasAFactorOf1AtMost() {
    says("THE FACTOR is the least t by which the arch STANDS");
    for (DrawnArch drawn : DrawnArch.all()) {
      StandingArch arch = drawn.made();
      long above = arch.factor(0), below = arch.factor(1);
      is(drawn + ": stands", arch.stands(), above != NONE && above <= below ? 1 : 0);
      if (above == NONE) is(drawn + ": no lower part either", below, NONE);
      else holds(drawn + ": 0 or more, without a common divisor", above >= 0 && below > 0 && commonDivisor(above, below) == 1);
    }
  }

  private void anArchThinnedByHandStandsFromTheFactorOn() {
    says("each joint's edges are the middle of l and u, less, and more, t times half of u less l");
    Random random = new Random(11);
    int stood = 0, fell = 0;
    for (DrawnArch drawn : DrawnArch.all()) {
      // With a thickness of 4 or none, edges THINNED by halves are whole numbers.
      for (int i = 0; i <= drawn.n; i++) drawn.u[i] = drawn.l[i] + 4 * random.nextInt(2);
      StandingArch arch = drawn.made();
      for (int halves = 0; halves <= 6; halves++) {
        DrawnArch thinned = drawn.copy();
        for (int i = 0; i <= drawn.n; i++) {
          int middle = (drawn.l[i] + drawn.u[i]) / 2, half = (drawn.u[i] - drawn.l[i]) / 2;
          thinned.l[i] = middle - halves * half / 2;
          thinned.u[i] = middle + halves * half / 2;
        }
        boolean stands = arch.factor(0) != NONE && 2 * arch.factor(0) <= halves * arch.factor(1);
        if (stands) stood++; else fell++;
        is(drawn + ": thinned by " + halves + " halves", thinned.made().stands(), stands ? 1 : 0);
      }
    }
    holds(stood + " stood, " + fell + " did not", stood > 100 && fell > 100);
  }

  private void aMovingLoadHarmsMostAtTheGreatestFactor() {
    says("Where a MOVING LOAD HARMS most.");
    for (DrawnArch drawn : DrawnArch.all()) {
      // Half of each load leaves room for 5 more by hand.
      for (int i = 1; i < drawn.n; i++) drawn.w[i] /= 2;
      for (int p = 1; p <= 5; p++) {
        int where = 0;
        long above = -1, below = 1;
        for (int i = 1; i < drawn.n; i++) {
          DrawnArch loaded = drawn.copy();
          loaded.w[i] += p;
          StandingArch arch = loaded.made();
          if (isLess(above, below, arch.factor(0), arch.factor(1))) {
            where = i;
            above = arch.factor(0);
            below = arch.factor(1);
          }
        }
        is(drawn + ": harms(" + p + ")", drawn.made().harms(p), where);
      }
    }
  }

  private void stonesAreLaidFromBothEnds() {
    says("STEP s (0 .. ) of building has loads at inner joints 1 .. s and n - s .. n - 1 alone; the last STEP is the first that has all.");
    for (DrawnArch drawn : DrawnArch.all()) {
      int step = NONE;
      boolean hasAll = false;
      for (int s = 0; !hasAll && step == NONE; s++) {
        DrawnArch laid = drawn.copy();
        hasAll = true;
        for (int i = s + 1; i < drawn.n - s; i++) {
          laid.w[i] = 0;
          hasAll = false;
        }
        if (laid.made().stands() == 0) step = s;
      }
      is(drawn + ": falls()", drawn.made().falls(), step);
    }
  }

  private void spreadPutsTheLastJointElsewhere() {
    says("joint n is d further off");
    int spread = 0;
    for (DrawnArch drawn : DrawnArch.all()) {
      for (int d = -10; d <= 10; d++) {
        DrawnArch other = drawn.copy();
        int end = drawn.x[drawn.n] + d;
        boolean may = end > drawn.x[drawn.n - 1] && end <= 20;
        if (may) other.x[drawn.n] = end;
        if (may) spread++;
        StandingArch arch = drawn.made(), want = other.made();
        is(drawn + ": spread(" + d + ")", arch.spread(d), may ? 1 : NOT);
        for (int i = 0; i <= drawn.n; i++)
          for (int what = 0; what <= 4; what++) is(other + ": told(" + i + ", " + what + ")", arch.told(i, what), want.told(i, what));
        fraction(other + ": factor", arch.factor(0), arch.factor(1), want.factor(0), want.factor(1));
      }
    }
    holds(spread + " were spread", spread > 100);
  }
}
