/** Sentences that name a boundary of LINES: "Terms" 1, promises 11 to 15. */
public final class BoundaryLinesTests extends Boundary {
  private static final int[] BAD_PARTS = {-1, 2, 3, LEAST, GREATEST};

  public static void main(String[] args) throws IllegalAccessException { new BoundaryLinesTests().runAll(); }

  /** The same edges at all joints of two stones, and a load of 4. */
  private static StandingArch level(int l, int u) {
    return Arches.arch(new int[] {l, l, l}, new int[] {u, u, u}, new int[] {0, 4, 0});
  }

  /** The joints of a new arch with edges of the pointed arch, and w of joints 0, 1, 2 as items of a SHEET. */
  private static StandingArch pointedWith(int w0, int w1, int w2) {
    StandingArch arch = new StandingArch();
    Arches.put(arch, 0, 1, 0, 0, 1, w0, 10, 4, 5, w1, 20, 0, 1, w2);
    arch.read(0, 1, 0);
    return arch;
  }

  // ---- 11 stands

  private void aLineMayTouchTheEdges() {
    says("It FITS, if it is not below l(i), not above u(i) at each joint");
    int[] line = {0, 3, 4, 3, 0};
    is("all edges on the line", Arches.thread().stands(), 1);
    for (int i = 0; i <= 4; i++) {
      for (int off = -1; off <= 1; off += 2) {
        StandingArch arch = Arches.thread();
        arch.edges(i, line[i] + off, line[i] + off);
        is("joint " + i + " off by " + off, arch.stands(), 0);
      }
      StandingArch upper = Arches.thread(), lower = Arches.thread();
      upper.edges(i, line[i], 20);
      lower.edges(i, -20, line[i]);
      is("joint " + i + " at its lower edge", upper.stands(), 1);
      is("joint " + i + " at its upper edge", lower.stands(), 1);
    }
  }

  private void kIsNotBelow0() {
    says("k, not below 0 (1 by the thrust)");
    StandingArch arch = Arches.sagging();
    is("the middle one too low for a straight line", arch.stands(), 0);
    arch.edges(1, 0, 2);
    is("a straight line is a LINE", arch.stands(), 1);
    arch.edges(1, 0, 1);
    arch.load(1, 10);
    is("a greater load does not help", arch.stands(), 0);
  }

  private void anArchWithoutLoadsHasStraightLinesAlone() {
    says("The arch STANDS, if some LINE FITS.");
    StandingArch arch = Arches.pointed();
    is("with a load", arch.stands(), 1);
    arch.load(1, 0);
    is("without", arch.stands(), 0);
    arch.edges(1, 2, 5);
    is("one above a straight line", arch.stands(), 0);
    arch.edges(1, 1, 5);
    is("at a straight line", arch.stands(), 1);
  }

  private void anArchThatOnlyJustDoesNotStand() {
    says("The arch STANDS, if some LINE FITS.");
    int[][][] arches = {{{2, 1, 4, 2}, {4, 3, 6, 4}, {0, 1, 2, 0}}, {{5, 4, 2, 2}, {6, 6, 3, 3}, {0, 2, 1, 0}},
      {{3, 5, 4, 5}, {3, 7, 5, 6}, {0, 2, 1, 0}}, {{5, 1, 2, 0}, {5, 3, 2, 2}, {0, 1, 2, 0}}, {{4, 3, 2, 5}, {6, 5, 4, 5}, {0, 1, 1, 0}}};
    int[][] factors = {{20, 19}, {21, 20}, {30, 23}, {21, 13}, {40, 27}};
    for (int t = 0; t < arches.length; t++) {
      StandingArch arch = Arches.arch(arches[t][0], arches[t][1], arches[t][2]);
      is("arch " + t + " stands", arch.stands(), 0);
      fraction("the factor of arch " + t, arch.factor(0), arch.factor(1), factors[t][0], factors[t][1]);
    }
  }

  private void loadsOfTheEndsCountForNothing() {
    says("that of 0, n counts for nothing");
    is("loads at the ends alone", pointedWith(10, 0, 10).stands(), 0);
    is("a load between", pointedWith(0, 1, 0).stands(), 1);
    StandingArch ends = pointedWith(10, 4, 10);
    fraction("least", ends.thrust(0, 0), ends.thrust(0, 1), 4, 1);
    fraction("factor", ends.factor(0), ends.factor(1), Arches.pointed().factor(0), Arches.pointed().factor(1));
  }

  private void standsAnswers1Or0() {
    says("Whether the arch STANDS: 1, 0.");
    is("a new arch", new StandingArch().stands(), 1);
    is("the steepest arch", Arches.arch(new int[] {-20, 20, -20}, new int[] {-20, 20, -20}, new int[] {0, 1, 0}).stands(), 1);
    is("the deepest", Arches.arch(new int[] {20, -20, 20}, new int[] {20, -20, 20}, new int[] {0, 10, 0}).stands(), 0);
    is("the widest", Arches.arch(new int[] {-20, -20, -20}, new int[] {20, 20, 20}, new int[] {0, 0, 0}).stands(), 1);
  }

  // ---- 12 thrust

  private void theLeastIsNoneWithoutAGreatestK() {
    says("the LEAST is NONE, if k has no greatest");
    StandingArch arch = new StandingArch();
    fraction("no loads", arch.thrust(0, 0), arch.thrust(0, 1), NONE, NONE);
    arch.load(1, 1);
    fraction("the least load", arch.thrust(0, 0), arch.thrust(0, 1), 5, 1);
    arch.load(1, 0);
    fraction("no loads again", arch.thrust(0, 0), arch.thrust(0, 1), NONE, NONE);
    StandingArch ends = new StandingArch();
    Arches.put(ends, 0, 1, 0, 0, 1, 10, 10, 0, 1, 0, 20, 0, 1, 10);
    ends.read(0, 1, 0);
    fraction("loads at the ends alone", ends.thrust(0, 0), ends.thrust(0, 1), NONE, NONE);
  }

  private void theLeastIsNoneAtAGreatestKOf0() {
    says("the LEAST is NONE, if k has no greatest, or that is 0");
    StandingArch arch = level(1, 1);
    fraction("no room to rise", arch.thrust(0, 0), arch.thrust(0, 1), NONE, NONE);
    arch.edges(1, 1, 2);
    fraction("room of 1", arch.thrust(0, 0), arch.thrust(0, 1), 20, 1);
    arch.edges(1, 0, 1);
    fraction("room below alone", arch.thrust(0, 0), arch.thrust(0, 1), NONE, NONE);
  }

  private void theMostIsNoneAtALeastKOf0() {
    says("the MOST that of the least k (NONE, if that k is 0");
    StandingArch arch = Arches.pointed();
    fraction("it must rise by 3", arch.thrust(1, 0), arch.thrust(1, 1), 20, 3);
    arch.edges(1, 2, 5);
    fraction("it must rise by 1", arch.thrust(1, 0), arch.thrust(1, 1), 20, 1);
    arch.edges(1, 1, 5);
    fraction("it need not rise", arch.thrust(1, 0), arch.thrust(1, 1), NONE, NONE);
    arch.edges(1, 0, 5);
    fraction("it could sink", arch.thrust(1, 0), arch.thrust(1, 1), NONE, NONE);
    fraction("the least is told all the same", arch.thrust(0, 0), arch.thrust(0, 1), 4, 1);
  }

  private void thrustOfWhatDoesNotStand() {
    says("BAD; NOT: it does not STAND; NONE.");
    for (int which = 0; which < 2; which++)
      for (int part = 0; part < 2; part++) is("thrust(" + which + ", " + part + ")", Arches.sagging().thrust(which, part), NOT);
  }

  private void thrustOfWhichAndPart() {
    says("The LEAST THRUST (0), the MOST (1): 0 above, 1 below");
    StandingArch arch = Arches.round();
    fraction("least", arch.thrust(0, 0), arch.thrust(0, 1), 35, 8);
    fraction("most", arch.thrust(1, 0), arch.thrust(1, 1), 25, 4);
    for (int bad : BAD_PARTS) {
      is("which " + bad + ", above", arch.thrust(bad, 0), BAD);
      is("which " + bad + ", below", arch.thrust(bad, 1), BAD);
      is("least, part " + bad, arch.thrust(0, bad), BAD);
      is("most, part " + bad, arch.thrust(1, bad), BAD);
    }
  }

  private void thrustsHaveNoCommonDivisor() {
    says("0 above, 1 below (without a common divisor)");
    StandingArch arch = Arches.pointed();
    fraction("100 by 25", arch.thrust(0, 0), arch.thrust(0, 1), 4, 1);
    arch.load(1, 10);
    fraction("10 by 1", arch.thrust(0, 0), arch.thrust(0, 1), 10, 1);
    fraction("50 by 3", arch.thrust(1, 0), arch.thrust(1, 1), 50, 3);
    StandingArch steep = new StandingArch();
    Arches.put(steep, 0, 1, 0, -1, 2, 9, 19, 3, 20, 10, 20, 0, 1, 10);
    steep.read(0, 1, 0);
    fraction("below 1", steep.thrust(0, 0), steep.thrust(0, 1), 190, 401);
    fraction("above 1", steep.thrust(1, 0), steep.thrust(1, 1), 190, 39);
  }

  private void leastAndMostOfOneLine() {
    says("the LEAST is that of the greatest k of all LINES that FIT, the MOST that of the least k");
    StandingArch arch = Arches.thread();
    fraction("least", arch.thrust(0, 0), arch.thrust(0, 1), 5, 2);
    fraction("most", arch.thrust(1, 0), arch.thrust(1, 1), 5, 2);
  }

  // ---- 13 height

  private void heightsOfEachJoint() {
    says("The height of THE LINE of the LEAST at a joint");
    StandingArch arch = Arches.thread();
    int[] line = {0, 3, 4, 3, 0};
    for (int i = 0; i <= 4; i++) fraction("height of " + i, arch.height(i, 0), arch.height(i, 1), line[i], 1);
    for (int part = 0; part < 2; part++)
      for (int i : new int[] {-1, 5, 6, 7, LEAST, GREATEST}) is("height(" + i + ", " + part + ")", arch.height(i, part), HEIGHT_BAD);
  }

  private void heightsOfParts() {
    says("BAD less 10^15 (-1000000000000001)");
    StandingArch arch = Arches.round();
    for (int bad : BAD_PARTS) for (int i = 0; i <= 4; i++) is("height(" + i + ", " + bad + ")", arch.height(i, bad), HEIGHT_BAD);
  }

  private void heightsOfWhatDoesNotStand() {
    says("NOT (-1000000000000002)");
    for (int i = 0; i <= 2; i++)
      for (int part = 0; part < 2; part++) is("height(" + i + ", " + part + ")", Arches.sagging().height(i, part), HEIGHT_NOT);
  }

  private void heightsWithoutAGreatestK() {
    says("(NONE, if k has no greatest.)");
    StandingArch arch = new StandingArch();
    for (int i = 0; i <= 2; i++)
      for (int part = 0; part < 2; part++) is("height(" + i + ", " + part + ")", arch.height(i, part), HEIGHT_NONE);
    arch.load(1, 1);
    fraction("with a load, joint 1", arch.height(1, 0), arch.height(1, 1), 1, 1);
  }

  private void heightsAtAGreatestKOf0() {
    says("THE LINE of the LEAST: of LINES that FIT with the greatest k");
    StandingArch arch = level(1, 1);
    is("its thrust is none", arch.thrust(0, 0), NONE);
    for (int i = 0; i <= 2; i++) fraction("height of " + i, arch.height(i, 0), arch.height(i, 1), 1, 1);
  }

  private void heightsThatRefusalsWouldBe() {
    says("BAD less 10^15 (-1000000000000001); NOT (-1000000000000002), NONE (-1000000000000004) likewise.");
    for (int y : new int[] {BAD, NOT, NONE}) {
      StandingArch arch = level(y, y);
      for (int i = 0; i <= 2; i++) fraction("a height of " + y, arch.height(i, 0), arch.height(i, 1), y, 1);
    }
  }

  /** One of its heights is 22 by 3, one 2 by 3; all edges are lowered by so much. */
  private static StandingArch skew(int down) {
    int[] l = {0, 5, 6, 5, 0}, u = {1, 7, 8, 7, 1};
    for (int i = 0; i <= 4; i++) {
      l[i] -= down;
      u[i] -= down;
    }
    return Arches.arch(l, u, new int[] {0, 10, 4, 3, 0});
  }

  private void heightsHaveBelowAbove0() {
    says("(without a common divisor, below above 0)");
    long[] thirds = {0, 21, 22, 15, 2};
    for (int down = 0; down <= 9; down += 3) {
      StandingArch arch = skew(down);
      for (int i = 0; i <= 4; i++) {
        long above = thirds[i] - 3 * down, divisor = above % 3 == 0 ? 3 : 1;
        fraction("height of " + i + ", " + down + " down", arch.height(i, 0), arch.height(i, 1), above / divisor, 3 / divisor);
      }
    }
  }

  private void heightsOf0() {
    says("(without a common divisor, below above 0)");
    StandingArch arch = level(0, 7);
    fraction("0", arch.height(0, 0), arch.height(0, 1), 0, 1);
    fraction("0 at the end", arch.height(2, 0), arch.height(2, 1), 0, 1);
    fraction("7 between", arch.height(1, 0), arch.height(1, 1), 7, 1);
  }

  private void heightsBeyondTheEdgesOfOthers() {
    says("of LINES that FIT with the greatest k that of the least a, of these of the least b");
    StandingArch arch = Arches.arch(new int[] {-20, 0, 10, -20}, new int[] {20, 0, 10, 20}, new int[] {0, 0, 1, 0});
    fraction("a", arch.height(0, 0), arch.height(0, 1), -60, 7);
    fraction("joint 1", arch.height(1, 0), arch.height(1, 1), 0, 1);
    fraction("joint 2", arch.height(2, 0), arch.height(2, 1), 10, 1);
    fraction("b", arch.height(3, 0), arch.height(3, 1), -20, 1);
  }

  private void heightsOfOneArchBehindAnother() {
    says("The height of THE LINE of the LEAST at a joint");
    int[][][] arches = {{{3, 5, 5}, {4, 6, 5}, {0, 2, 0}, {3, 6, 5}}, {{4, 2, 1}, {6, 4, 3}, {0, 1, 0}, {4, 4, 1}},
      {{0, 4, 4}, {0, 5, 4}, {0, 2, 0}, {0, 5, 4}}};
    StandingArch one = new StandingArch();
    for (int[][] next : arches) {
      for (int i = 0; i <= 2; i++) one.edges(i, next[0][i], next[1][i]);
      one.load(1, next[2][1]);
      for (int i = 0; i <= 2; i++) fraction("in the same object, height of " + i, one.height(i, 0), one.height(i, 1), next[3][i], 1);
      StandingArch fresh = Arches.arch(next[0], next[1], next[2]);
      for (int i = 2; i >= 0; i--) fraction("in a new object, height of " + i, fresh.height(i, 0), fresh.height(i, 1), next[3][i], 1);
    }
  }

  // ---- 14 bar

  private void bars(String what, StandingArch arch, int... want) {
    is(what + ", how many", arch.bar(-1), want.length);
    for (int i = 0; i < 4; i++) is(what + ", bar(" + i + ")", arch.bar(i), i < want.length ? want[i] : BAD);
  }

  private static StandingArch three(int[] l, int[] u, int w1, int w2) { return Arches.arch(l, u, new int[] {0, w1, w2, 0}); }

  private void barGoesFromMinus1To3() {
    says("BARS: the i-th edge, i = -1: how many. BAD");
    for (int bad : new int[] {-2, -3, 4, 5, LEAST, GREATEST}) {
      is("bar(" + bad + ") of what does not stand", Arches.sagging().bar(bad), BAD);
      is("bar(" + bad + ") of what stands", Arches.round().bar(bad), BAD);
    }
    bars("all four", Arches.sagging(), 0, 3, 4, 14);
  }

  private void barBehindTheLast() {
    says("BAD -1 (a number is not as told, or names nothing)");
    StandingArch arch = Arches.sagging();
    arch.load(1, 0);
    is("how many", arch.bar(-1), 3);
    is("bar(2), the last of three", arch.bar(2), 4);
    is("bar(3) of three", arch.bar(3), BAD);
  }

  private void barOfWhatStands() {
    says("NOT: it STANDS.");
    StandingArch arch = Arches.thread();
    for (int i = -1; i <= 3; i++) is("bar(" + i + ") of what only just stands", arch.bar(i), NOT);
    arch.load(2, 2);
    is("bar(-1) of what no longer stands", arch.bar(-1), 4);
  }

  private void barsAreTheFewest() {
    says("the fewest, of as few the first by numbers, the least first");
    StandingArch arch = Arches.round();
    arch.load(1, 10);
    arch.load(3, 0);
    bars("three, though others bar it from a lower number on", arch, 5, 6, 9);
  }

  private void barsAreTheFirstByNumbers() {
    says("the fewest, of as few the first by numbers, the least first");
    bars("0, 3, 4, 7 is ahead of 0, 3, 4, 14", three(new int[] {4, 3, 4, 4}, new int[] {5, 3, 4, 5}, 1, 1), 0, 3, 4, 7);
    bars("0, 3, 4, 14 is ahead of 1, 2, 5, 6", three(new int[] {5, 3, 1, 4}, new int[] {6, 3, 2, 5}, 2, 1), 0, 3, 4, 14);
    bars("0, 3, 6, 14 is ahead of 0, 5, 6, 14", three(new int[] {4, 3, 1, 4}, new int[] {4, 3, 1, 4}, 3, 3), 0, 3, 6, 14);
    bars("0, 5, 6, 14 is ahead of 1, 2, 5, 6", three(new int[] {0, 3, 1, 5}, new int[] {1, 4, 1, 6}, 2, 1), 0, 5, 6, 14);
    bars("1, 2, 5, 6 alone", three(new int[] {1, 5, 3, 0}, new int[] {2, 5, 3, 0}, 2, 1), 1, 2, 5, 6);
    bars("the last one at joint 4", Arches.arch(new int[] {4, 1, 3, 3, 2}, new int[] {6, 3, 5, 4, 2}, new int[] {0, 1, 1, 1, 0}), 0, 3, 4, 9);
    bars("the last one ahead of joint 4", Arches.arch(new int[] {1, 2, 4, 1, 2}, new int[] {3, 3, 4, 2, 3}, new int[] {0, 2, 2, 1, 0}), 0, 3, 4, 7);
    bars("2, 7, 8 is ahead of 3, 4, 7", Arches.arch(new int[] {4, 5, 4, 1, 0}, new int[] {5, 5, 4, 1, 1}, new int[] {0, 1, 0, 0, 0}), 2, 7, 8);
    bars("0, 3, 4, 7 alone", three(new int[] {3, 3, 5, 0}, new int[] {3, 4, 6, 1}, 2, 3), 0, 3, 4, 7);
  }

  private void barsNeed14ForAPushBelow0() {
    says("k may be below 0 without 14");
    bars("0, 5, 6 bar with 14 alone", three(new int[] {4, 3, 2, 3}, new int[] {4, 4, 3, 4}, 1, 3), 0, 5, 6, 14);
    bars("1, 2, 7 do not bar with 14: a push lifts the line",
      Arches.arch(new int[] {4, 5, 5, 4, 3}, new int[] {5, 5, 5, 4, 4}, new int[] {0, 2, 2, 2, 0}), 1, 4, 7, 8);
    StandingArch arch = Arches.sagging();
    bars("a load that could only lift the line", arch, 0, 3, 4, 14);
    arch.load(1, 0);
    bars("no load: 14 is not needed", arch, 0, 3, 4);
  }

  private void barsAtTheLastJoints() {
    says("edges, told as 2 i (not below l(i)), 2 i + 1 (not above u(i)), and 14");
    int[] low = {-20, -20, -20, -20, 0, 1, 0}, high = {20, 20, 20, 20, 0, 1, 0};
    bars("9, 10, 13", Arches.arch(low, high, new int[7]), 9, 10, 13);
    low[4] = high[4] = low[6] = high[6] = 1;
    low[5] = high[5] = 0;
    bars("8, 11, 12", Arches.arch(low, high, new int[7]), 8, 11, 12);
    bars("8, 11, 12, 14", Arches.arch(low, high, new int[] {0, 0, 0, 0, 0, 1, 0}), 8, 11, 12, 14);
  }

  private void edgesThatAreTouchedDoNotBar() {
    says("of those sets of up to 4 edges that no LINE (k may be below 0 without 14) keeps");
    StandingArch arch = Arches.sagging();
    arch.load(1, 0);
    arch.edges(1, 0, 2);
    is("a line just keeps them", arch.bar(-1), NOT);
    bars("0, 3, 4 are just kept", three(new int[] {2, 0, 2, 0}, new int[] {4, 2, 2, 0}, 0, 0), 1, 4, 7);
    bars("2, 5, 6 are just kept", three(new int[] {3, 0, 0, 0}, new int[] {4, 2, 0, 0}, 2, 0), 0, 3, 6, 14);
    bars("3, 4, 7 are just kept", three(new int[] {4, 2, 5, 5}, new int[] {4, 4, 5, 6}, 2, 0), 0, 3, 4, 14);
  }

  private void edgesThatAreOnlyJustMissedBar() {
    says("of those sets of up to 4 edges that no LINE (k may be below 0 without 14) keeps");
    StandingArch arch = Arches.arch(new int[] {0, 0, 1}, new int[] {2, 0, 3}, new int[] {0, 0, 0});
    arch.at(1, 1);
    bars("too low by 1 by 20", arch, 0, 3, 4);
    for (int i = 0; i <= 2; i++) arch.edges(i, new int[] {5, 5, 4}[i], new int[] {5, 7, 4}[i]);
    bars("too high by 1 by 20", arch, 1, 2, 5);
  }

  // ---- 15 fits

  private static StandingArch widest() {
    return Arches.arch(new int[] {-20, -20, -20}, new int[] {20, 20, 20}, new int[] {0, 10, 0});
  }

  private void fitsTakesHeightsFromMinus20To20() {
    says("Whether a LINE of a, b (-20 .. 20)");
    StandingArch arch = widest();
    for (int a = -20; a <= 20; a += 40) for (int b = -20; b <= 20; b += 40) is("fits(" + a + ", " + b + ")", arch.fits(a, b, 0, 1), 1);
    for (int bad : new int[] {-21, 21, LEAST, GREATEST}) {
      is("a " + bad, arch.fits(bad, 0, 0, 1), BAD);
      is("b " + bad, arch.fits(0, bad, 0, 1), BAD);
      is("both " + bad, arch.fits(bad, bad, 0, 1), BAD);
    }
  }

  private void fitsTakesAboveFrom0To1000() {
    says("k as above by below (0 .. 1000 by 1 .. 1000)");
    StandingArch arch = new StandingArch();
    is("above 0", arch.fits(0, 0, 0, 1), 1);
    is("above 1000", arch.fits(0, 0, 1000, 1), 1);
    for (int bad : new int[] {-1, 1001, LEAST, GREATEST}) is("above " + bad, arch.fits(0, 0, bad, 1), BAD);
    arch.load(1, 1);
    is("above 1000, with a load", arch.fits(0, 0, 1000, 1), 0);
    is("1000 by 1000, with a load", arch.fits(0, 0, 1000, 1000), 0);
    arch.edges(1, 5, 5);
    is("1000 by 1000 lifts by 5", arch.fits(0, 0, 1000, 1000), 1);
  }

  private void fitsTakesBelowFrom1To1000() {
    says("k as above by below (0 .. 1000 by 1 .. 1000)");
    StandingArch arch = new StandingArch();
    is("below 1", arch.fits(0, 0, 0, 1), 1);
    is("below 1000", arch.fits(0, 0, 0, 1000), 1);
    for (int bad : new int[] {0, -1, 1001, LEAST, GREATEST}) is("below " + bad, arch.fits(0, 0, 0, bad), BAD);
    arch.load(1, 10);
    is("1 by 1000 lifts by 1 by 20", arch.fits(0, 0, 1, 1000), 1);
    arch.edges(1, 0, 0);
    is("that is too much", arch.fits(0, 0, 1, 1000), 0);
  }

  private void fitsToTheVeryEdge() {
    says("It FITS, if it is not below l(i), not above u(i) at each joint");
    int[] line = {0, 3, 4, 3, 0};
    is("the line itself", Arches.thread().fits(0, 0, 2, 5), 1);
    is("the line with a common divisor", Arches.thread().fits(0, 0, 400, 1000), 1);
    for (int i = 0; i <= 4; i++) {
      int[][] edges = {{line[i], 20, 1}, {-20, line[i], 1}, {line[i] + 1, 20, 0}, {-20, line[i] - 1, 0}};
      for (int[] e : edges) {
        StandingArch arch = Arches.thread();
        arch.edges(i, e[0], e[1]);
        is("joint " + i + " from " + e[0] + " to " + e[1], arch.fits(0, 0, 2, 5), e[2]);
      }
    }
  }

  private void fitsExactlyToAThousandth() {
    says("Whether a LINE of a, b (-20 .. 20), k as above by below (0 .. 1000 by 1 .. 1000) FITS: 1, 0.");
    StandingArch arch = Arches.thread();
    is("a little more", arch.fits(0, 0, 401, 1000), 0);
    is("a little less", arch.fits(0, 0, 399, 1000), 0);
    for (int i = 1; i <= 3; i++) arch.edges(i, -20, arch.told(i, 2));
    is("a little more, no lower edge", arch.fits(0, 0, 401, 1000), 0);
    is("a little less, no lower edge", arch.fits(0, 0, 399, 1000), 1);
    for (int i = 1; i <= 3; i++) arch.edges(i, arch.told(i, 2), 20);
    is("a little more, no upper edge", arch.fits(0, 0, 401, 1000), 1);
    is("a little less, no upper edge", arch.fits(0, 0, 399, 1000), 0);
  }

  private void fitsWeighsBothHeights() {
    says("(a (L - x(i)) + b x(i) + m(i) k) by L");
    StandingArch arch = Arches.arch(new int[] {-20, 6, -20, -20}, new int[] {20, 6, 20, 20}, new int[] {0, 0, 0, 0});
    is("b alone lifts joint 1 by 20 times 6 by 20", arch.fits(0, 20, 0, 1), 1);
    is("a alone by 20 times 14 by 20", arch.fits(20, 0, 0, 1), 0);
    arch.edges(1, 14, 14);
    is("b alone", arch.fits(0, 20, 0, 1), 0);
    is("a alone", arch.fits(20, 0, 0, 1), 1);
    arch.edges(1, 13, 13);
    is("not just one less", arch.fits(20, 0, 0, 1), 0);
  }
}
