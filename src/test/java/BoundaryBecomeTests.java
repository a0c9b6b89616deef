/** Sentences that name a boundary of what may become of an arch: "Terms" 2, promises 16 to 19. */
public final class BoundaryBecomeTests extends Boundary {
  public static void main(String[] args) throws IllegalAccessException { new BoundaryBecomeTests().runAll(); }

  private void factor(String what, StandingArch arch, long above, long below) {
    fraction(what, arch.factor(0), arch.factor(1), above, below);
  }

  /** Two stones without a load: edges 0 .. 1 at the ends, of a thickness of 1 in the middle too. */
  private static StandingArch raised(int l) {
    return Arches.arch(new int[] {0, l, 0}, new int[] {1, l + 1, 1}, new int[] {0, 0, 0});
  }

  // ---- 16 factor

  private void factorOfParts() {
    says("THE FACTOR: 0 above, 1 below (without a common divisor). BAD");
    StandingArch arch = Arches.round();
    is("above", arch.factor(0), 6);
    is("below", arch.factor(1), 13);
    for (int bad : new int[] {-1, 2, 3, LEAST, GREATEST}) is("factor(" + bad + ")", arch.factor(bad), BAD);
  }

  private void factorsAre0OrMore() {
    says("THINNED by t (0 or more)");
    factor("its middle is on a line", raised(0), 0, 1);
    factor("without any thickness, on a line", Arches.thread(), 0, 1);
    factor("without any thickness or load, straight", Arches.arch(new int[] {1, 2, 3}, new int[] {1, 2, 3}, new int[] {0, 0, 0}), 0, 1);
    factor("a load, and much room", Arches.pointed(), 0, 1);
    factor("the widest", Arches.arch(new int[] {-20, -20, -20}, new int[] {20, 20, 20}, new int[] {0, 10, 0}), 0, 1);
  }

  private void factorsOf1AndMore() {
    says("THE FACTOR is the least t by which the arch STANDS");
    StandingArch just = raised(1), not = raised(2);
    is("it only just stands", just.stands(), 1);
    factor("then it is 1", just, 1, 1);
    is("it does not stand", not.stands(), 0);
    factor("then it is more", not, 2, 1);
    factor("as far off as can be", raised(19), 19, 1);
  }

  private void factorsHaveTheMiddleAtHalves() {
    says("each joint's edges are the middle of l and u, less, and more, t times half of u less l");
    StandingArch arch = Arches.arch(new int[] {0, 1, 0}, new int[] {1, 1, 1}, new int[] {0, 0, 0});
    factor("half above the middle, half a thickness", arch, 1, 1);
    arch.edges(1, 1, 2);
    factor("one above, two half thicknesses", arch, 1, 1);
    arch.edges(1, 1, 4);
    factor("two above, half a thickness and three halves", arch, 1, 1);
    arch.edges(1, 0, 4);
    factor("three halves above, half a thickness and two", arch, 3, 5);
  }

  private void factorsOfTheLeastThatIsOff() {
    says("THE FACTOR is the least t by which the arch STANDS");
    StandingArch arch = Arches.arch(new int[] {0, 0, 0}, new int[] {0, 1, 1}, new int[] {0, 0, 0});
    arch.at(1, 1);
    arch.at(2, 2);
    factor("a quarter off, of three quarters", arch, 1, 3);
    StandingArch many = Arches.arch(new int[] {4, 0, 2, 5}, new int[] {4, 2, 3, 5}, new int[] {0, 0, 0, 0});
    factor("three joints need more than other three", many, 43, 10);
  }

  private void factorsHaveNoCommonDivisor() {
    says("(without a common divisor)");
    StandingArch arch = Arches.round();
    arch.load(1, 10);
    factor("round, with 10 at joint 1", arch, 77, 85);
    arch.load(3, 0);
    factor("and nothing at joint 3", arch, 11, 7);
    StandingArch even = Arches.arch(new int[] {0, 2, 0}, new int[] {4, 6, 4}, new int[] {0, 0, 0});
    factor("2 by 4", even, 1, 2);
  }

  private void factorIsNoneIfNoThicknessHelps() {
    says("(a fraction; NONE, if no t does)");
    StandingArch arch = Arches.thread();
    arch.load(2, 2);
    factor("no thickness, off the line", arch, NONE, NONE);
    arch.edges(2, 4, 6);
    factor("thickness where it helps", arch, 1, 2);
    StandingArch bent = Arches.arch(new int[] {0, 1, 0, -9}, new int[] {0, 1, 0, 9}, new int[] {0, 0, 0, 0});
    factor("no load, thickness where it does not help", bent, NONE, NONE);
    bent.edges(1, -1, 3);
    factor("where it does", bent, 1, 2);
  }

  private void factorsKeepKFromBelow0() {
    says("THE FACTOR is the least t by which the arch STANDS");
    StandingArch arch = Arches.sagging();
    factor("sagging by 2, of two half thicknesses", arch, 2, 1);
    arch.edges(1, 1, 1);
    factor("by 3 halves, of half a thickness", arch, 3, 1);
    StandingArch thin = Arches.arch(new int[] {2, 0, 2}, new int[] {2, 0, 2}, new int[] {0, 5, 0});
    factor("sagging without thickness", thin, NONE, NONE);
  }

  // ---- 17 harms

  private void harmsFor1To10() {
    says("A MOVING LOAD of p (1 .. 10)");
    StandingArch arch = Arches.round();
    is("harms(1)", arch.harms(1), 2);
    is("harms(10)", arch.harms(10), 1);
    for (int bad : new int[] {0, -1, 11, LEAST, GREATEST}) is("harms(" + bad + ")", arch.harms(bad), BAD);
  }

  private void harmsAtTheFirstOfLikeOnes() {
    says("of like ones the first");
    for (int n = 2; n <= 6; n++) {
      StandingArch arch = new StandingArch();
      arch.joints(n);
      is("none harms, " + n + " stones", arch.harms(10), 1);
    }
    is("joints 1 and 3 are alike", Arches.round().harms(10), 1);
  }

  private void harmsAtTheLastInnerJoint() {
    says("more at each inner joint in turn");
    int[] l = {0, 4, 7, 8, 7, 4, 0}, u = {2, 8, 11, 12, 11, 8, 2};
    is("joint 5 of six stones", Arches.arch(l, u, new int[] {0, 2, 3, 5, 3, 2, 0}).harms(10), 5);
    is("two stones have one", Arches.pointed().harms(10), 1);
  }

  private void harmsMostWhereNoFactorDoes() {
    says("where none does: there");
    int[] line = {0, 3, 4, 3, 0};
    is("behind one that a load of 1 makes stand", Arches.arch(line, line, new int[] {0, 0, 1, 1, 0}).harms(1), 2);
    is("the first of all", Arches.arch(line, line, new int[] {0, 1, 0, 1, 0}).harms(1), 1);
    is("all like that", Arches.thread().harms(1), 1);
  }

  private void harmsBeyondALoadOf10() {
    says("p (1 .. 10) more");
    StandingArch arch = Arches.arch(new int[] {0, 5, 0, 0}, new int[] {1, 7, 1, 1}, new int[] {0, 10, 10, 0});
    is("1 more than 10", arch.harms(1), 2);
    is("10 more than 10", arch.harms(10), 2);
    is("the load stays", arch.told(2, 3), 10);
  }

  private void harmsAtNoJointThatIsNotInner() {
    says("A MOVING LOAD of p (1 .. 10) more at each inner joint in turn");
    StandingArch arch = raised(19);
    factor("much without a load", arch, 19, 1);
    is("a load at joint 1 does good, and none is at 0 or 2", arch.harms(1), 1);
    is("10", arch.harms(10), 1);
  }

  private void harmsOfOneArchBehindAnother() {
    says("it HARMS most where THE FACTOR is greatest");
    StandingArch arch = Arches.arch(new int[] {0, 5, 0, 0}, new int[] {1, 7, 1, 1}, new int[] {0, 10, 10, 0});
    is("a factor of more than 3", arch.harms(10), 2);
    int[] l = {0, 4, 7, 8, 7, 4, 0}, u = {2, 8, 11, 12, 11, 8, 2}, w = {0, 2, 3, 5, 3, 2, 0};
    arch.joints(6);
    for (int i = 0; i <= 6; i++) {
      arch.edges(i, l[i], u[i]);
      arch.load(i, w[i]);
    }
    is("one of less", arch.harms(1), 3);
  }

  // ---- 18 falls

  private void fallsAtStep0() {
    says("FALLS at the first STEP at which the arch (its joints as they are) does not STAND");
    is("stands with its loads alone", Arches.pointed().falls(), 0);
    is("and with more joints", Arches.round().falls(), 0);
    is("stands never", Arches.sagging().falls(), 0);
    is("one above a straight line", raised(2).falls(), 0);
  }

  private void fallsNever() {
    says("NONE: it STANDS at all.");
    is("at the edge of a straight line", raised(1).falls(), NONE);
    for (int n = 2; n <= 6; n++) {
      StandingArch arch = new StandingArch();
      arch.joints(n);
      for (int i = 1; i < n; i++) arch.load(i, 10);
      is("straight edges, " + n + " stones", arch.falls(), NONE);
    }
    StandingArch still = Arches.arch(new int[] {0, 0, 0}, new int[] {0, 0, 0}, new int[] {0, 10, 0});
    is("no thickness, but straight", still.falls(), NONE);
  }

  // ---- 19 spread

  /** Two stones, joint 1 at 1, joint 2 at the place given. */
  private static StandingArch endingAt(int end) {
    StandingArch arch = new StandingArch();
    arch.at(1, 1);
    arch.at(2, end);
    return arch;
  }

  private void spreadByMinus10To10() {
    says("SPREAD by d (-10 .. 10)");
    StandingArch arch = endingAt(12);
    is("spread(-10)", arch.spread(-10), 1);
    is("then at", arch.told(2, 0), 2);
    is("spread(10)", arch.spread(10), 1);
    is("then at", arch.told(2, 0), 12);
    is("spread(0)", arch.spread(0), 1);
    is("then at", arch.told(2, 0), 12);
    for (int bad : new int[] {-11, 11, LEAST, GREATEST}) is("spread(" + bad + ")", arch.spread(bad), BAD);
    is("spread(11) from 9 on would be 20", endingAt(9).spread(11), BAD);
    is("spread(-11) from 20 on would be 9", endingAt(20).spread(-11), BAD);
  }

  private void spreadTo20AtMost() {
    says("L + d is above x(n - 1), 20 at most");
    StandingArch arch = endingAt(15);
    is("to 21", arch.spread(6), NOT);
    is("to 20", arch.spread(5), 1);
    is("told", arch.told(2, 0), 20);
    is("to 21 from there", arch.spread(1), NOT);
    is("to 30", arch.spread(10), NOT);
    is("told", arch.told(2, 0), 20);
  }

  private void spreadAboveTheJointAhead() {
    says("BAD; NOT: L + d is not as told.");
    StandingArch arch = new StandingArch();
    is("to the joint ahead", arch.spread(-10), NOT);
    is("just behind it", arch.spread(-9), 1);
    is("told", arch.told(2, 0), 11);
    is("to it from there", arch.spread(-1), NOT);
    is("ahead of it", arch.spread(-2), NOT);
    is("ahead of all", endingAt(5).spread(-10), NOT);
    is("told", arch.told(2, 0), 11);
  }

  private void spreadLeavesAllElse() {
    says("all other joints, edges, loads stay");
    StandingArch arch = new StandingArch();
    Arches.furnish(arch);
    is("spread(2)", arch.spread(2), 1);
    joints("two further off", arch, 0, -1, 2, 0, 5, 3, 6, 3, 12, 4, 7, 4, 20, -2, 1, 0);
    is("spread(-7)", arch.spread(-7), 1);
    joints("seven nearer", arch, 0, -1, 2, 0, 5, 3, 6, 3, 12, 4, 7, 4, 13, -2, 1, 0);
    is("m(1) is of the new L", arch.told(1, 4), 5 * (3 * 8 + 4 * 1));
    for (int s = 0; s < 3; s++) is("its sheets", arch.drop(s), 16);
  }
}
