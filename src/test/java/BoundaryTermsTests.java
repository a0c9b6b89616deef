/** Sentences of "Terms" that hold for all calls: which refusal is answered, and that what is refused changes nothing. */
public final class BoundaryTermsTests extends Boundary {
  private static final String FIRST = "of several the first that a call names";
  private static final String ORDER = "NULL -11, CAST -12, INDEX -13, SIZE -14, in this order, behind BAD";
  private static final String NOTHING = "What is refused changes nothing";

  public static void main(String[] args) throws IllegalAccessException { new BoundaryTermsTests().runAll(); }

  /** An arch whose SHEETS 0, 1, 2 are rows of LANES 0, 1, 2, each of 16 zeros (no arch: x does not rise), 3 nothing. */
  private static StandingArch rowsOfZeros() {
    StandingArch arch = new StandingArch();
    for (int s = 0; s < 3; s++) arch.sheet(s, s, 16);
    return arch;
  }

  private static StandingArch furnished() {
    StandingArch arch = new StandingArch();
    Arches.furnish(arch);
    return arch;
  }

  // ---- two refusals at once

  private void atAnswersBadAheadOfNot() {
    says(FIRST);
    StandingArch arch = new StandingArch();
    is("at(0, 0): no such joint, and none would rise", arch.at(0, 0), BAD);
    is("at(3, 10): no such joint, and not behind joint 2", arch.at(3, 10), BAD);
    is("at(1, 21): beyond 20, and behind joint 2", arch.at(1, 21), BAD);
    is("at(1, -1): below 0, and ahead of joint 0", arch.at(1, -1), BAD);
    is("at(2, -1): below 0, and ahead of joint 1", arch.at(2, -1), BAD);
    is("at(1, 20): NOT alone", arch.at(1, 20), NOT);
  }

  private void sheetAnswersBadAheadOfSize() {
    says(ORDER);
    StandingArch arch = new StandingArch();
    is("sheet(4, 0, -1)", arch.sheet(4, 0, -1), BAD);
    is("sheet(-1, 0, -1)", arch.sheet(-1, 0, -1), BAD);
    is("sheet(0, 3, -1)", arch.sheet(0, 3, -1), BAD);
    is("sheet(0, -1, -1)", arch.sheet(0, -1, -1), BAD);
    is("sheet(3, 2, -1): SIZE alone", arch.sheet(3, 2, -1), SIZE);
  }

  private void itemAnswersBadAheadOfAll() {
    says(ORDER);
    StandingArch arch = rowsOfZeros();
    is("a SHEET that names nothing, and no item", arch.item(4, 0, -1, 0), BAD);
    is("a LANE that names nothing, and nothing held", arch.item(3, 3, 0, 0), BAD);
    is("a LANE that names nothing, and another LANE", arch.item(0, 3, 0, 0), BAD);
    is("a LANE that names nothing, and no item", arch.item(0, -1, 16, 0), BAD);
  }

  private void itemAnswersNullAheadOfIndex() {
    says(ORDER);
    StandingArch arch = rowsOfZeros();
    for (int lane = 0; lane < 3; lane++)
      for (int i : new int[] {-1, 0, 28}) is("item(3, " + lane + ", " + i + ") of nothing", arch.item(3, lane, i, 0), NULL);
  }

  private void itemAnswersCastAheadOfIndex() {
    says(ORDER);
    StandingArch arch = rowsOfZeros();
    for (int s = 0; s < 3; s++)
      for (int lane = 0; lane < 3; lane++)
        for (int i : new int[] {-1, 16}) is("item(" + s + ", " + lane + ", " + i + ")", arch.item(s, lane, i, 0), s == lane ? INDEX : CAST);
  }

  private void readAnswersBadAheadOfAll() {
    says(ORDER);
    StandingArch arch = rowsOfZeros();
    is("a SHEET that names nothing, from none", arch.read(4, 0, -1), BAD);
    is("a SHEET that names nothing, from 0", arch.read(-1, 0, 0), BAD);
    is("a LANE that names nothing, and nothing held", arch.read(3, 3, 0), BAD);
    is("a LANE that names nothing, and another LANE", arch.read(0, -1, 0), BAD);
    is("a LANE that names nothing, from none", arch.read(0, 3, 17), BAD);
  }

  private void readAnswersNullAheadOfIndex() {
    says(ORDER);
    StandingArch arch = rowsOfZeros();
    for (int lane = 0; lane < 3; lane++)
      for (int from : new int[] {-1, 0, 28}) is("read(3, " + lane + ", " + from + ") of nothing", arch.read(3, lane, from), NULL);
  }

  private void readAnswersCastAheadOfIndexAndNot() {
    says(ORDER);
    StandingArch arch = rowsOfZeros();
    for (int s = 0; s < 3; s++) {
      for (int lane = 0; lane < 3; lane++) {
        is("read(" + s + ", " + lane + ", 5)", arch.read(s, lane, 5), s == lane ? INDEX : CAST);
        is("read(" + s + ", " + lane + ", 0) of zeros", arch.read(s, lane, 0), s == lane ? NOT : CAST);
      }
    }
  }

  private void readAnswersIndexAheadOfNot() {
    says(FIRST);
    StandingArch arch = rowsOfZeros();
    is("the last row of items that are not as told", arch.read(1, 1, 4), NOT);
    is("one item short, and those not as told", arch.read(1, 1, 5), INDEX);
    is("from ahead of the row, and those not as told", arch.read(1, 1, -1), INDEX);
  }

  private void thrustAnswersBadAheadOfNotAheadOfNone() {
    says(FIRST);
    StandingArch barred = Arches.sagging();
    is("which 2 of what does not stand", barred.thrust(2, 0), BAD);
    is("part 2 of what does not stand", barred.thrust(0, 2), BAD);
    StandingArch free = new StandingArch();
    is("which -1 of no thrust", free.thrust(-1, 0), BAD);
    is("part -1 of no thrust", free.thrust(0, -1), BAD);
    barred.load(1, 0);
    is("what does not stand, and has no greatest k", barred.thrust(0, 0), NOT);
    is("what does not stand, and has a least k of 0", barred.thrust(1, 0), NOT);
  }

  private void heightAnswersBadAheadOfNotAheadOfNone() {
    says(FIRST);
    StandingArch barred = Arches.sagging();
    is("a joint too far of what does not stand", barred.height(3, 0), HEIGHT_BAD);
    is("part 2 of what does not stand", barred.height(0, 2), HEIGHT_BAD);
    StandingArch free = new StandingArch();
    is("a joint too far of no line", free.height(3, 0), HEIGHT_BAD);
    is("part -1 of no line", free.height(0, -1), HEIGHT_BAD);
    barred.load(1, 0);
    is("what does not stand, and has no greatest k", barred.height(0, 0), HEIGHT_NOT);
  }

  private void barAnswersBadAheadOfNot() {
    says(FIRST);
    StandingArch arch = Arches.round();
    is("bar(4) of what stands", arch.bar(4), BAD);
    is("bar(-2) of what stands", arch.bar(-2), BAD);
    is("bar(3) of what stands: NOT alone", arch.bar(3), NOT);
    is("bar(-1) of what stands: NOT alone", arch.bar(-1), NOT);
  }

  private void factorAnswersBadAheadOfNone() {
    says(FIRST);
    StandingArch thread = Arches.thread();
    thread.load(2, 2);
    is("factor(0): NONE alone", thread.factor(0), NONE);
    is("factor(2)", thread.factor(2), BAD);
    is("factor(-1)", thread.factor(-1), BAD);
  }

  private void spreadAnswersBadAheadOfNot() {
    says(FIRST);
    StandingArch arch = new StandingArch();
    is("spread(11), beyond 20", arch.spread(11), BAD);
    is("spread(-11), ahead of joint 1", arch.spread(-11), BAD);
    is("spread(10): NOT alone", arch.spread(10), NOT);
    is("spread(-10): NOT alone", arch.spread(-10), NOT);
  }

  // ---- what is refused changes nothing

  private void refused(String what, Call call, long want) { changesNothing(what, Arches::furnish, call, want); }

  private void furnishedArchesAreAsTheTestsTakeThem() {
    says(NOTHING);
    StandingArch arch = furnished();
    joints("the arch", arch, 0, -1, 2, 0, 5, 3, 6, 3, 12, 4, 7, 4, 18, -2, 1, 0);
    is("it stands", arch.stands(), 1);
    for (int lane = 0; lane < 3; lane++) is("its row of a LANE", arch.read(lane, lane, 0), 1);
    StandingArch barred = new StandingArch();
    Arches.furnishBarred(barred);
    is("that with a joint too low does not stand", barred.stands(), 0);
  }

  private void refusedJoints() {
    says(NOTHING);
    for (int n : new int[] {1, 7, 0, -1, LEAST, GREATEST}) refused("joints(" + n + ")", a -> a.joints(n), BAD);
  }

  private void refusedAt() {
    says(NOTHING);
    refused("at(0, 0)", a -> a.at(0, 0), BAD);
    refused("at(4, 20)", a -> a.at(4, 20), BAD);
    refused("at(3, 21)", a -> a.at(3, 21), BAD);
    refused("at(1, -1)", a -> a.at(1, -1), BAD);
    refused("at(1, 0)", a -> a.at(1, 0), NOT);
    refused("at(1, 12)", a -> a.at(1, 12), NOT);
    refused("at(2, 5)", a -> a.at(2, 5), NOT);
    refused("at(2, 18)", a -> a.at(2, 18), NOT);
    refused("at(3, 12)", a -> a.at(3, 12), NOT);
  }

  private void refusedEdges() {
    says(NOTHING);
    refused("edges(-1, 0, 1)", a -> a.edges(-1, 0, 1), BAD);
    refused("edges(4, 0, 1)", a -> a.edges(4, 0, 1), BAD);
    refused("edges(0, -21, 1)", a -> a.edges(0, -21, 1), BAD);
    refused("edges(1, 0, 21)", a -> a.edges(1, 0, 21), BAD);
    refused("edges(3, 1, 0)", a -> a.edges(3, 1, 0), BAD);
  }

  private void refusedLoad() {
    says(NOTHING);
    refused("load(0, 1)", a -> a.load(0, 1), BAD);
    refused("load(3, 1)", a -> a.load(3, 1), BAD);
    refused("load(4, 1)", a -> a.load(4, 1), BAD);
    refused("load(1, -1)", a -> a.load(1, -1), BAD);
    refused("load(2, 11)", a -> a.load(2, 11), BAD);
  }

  private void refusedSheet() {
    says(NOTHING);
    for (int s = 0; s < 4; s++) {
      int sheet = s;
      refused("sheet(" + s + ", 0, 29)", a -> a.sheet(sheet, 0, 29), BAD);
      refused("sheet(" + s + ", 3, 1)", a -> a.sheet(sheet, 3, 1), BAD);
      refused("sheet(" + s + ", -1, 1)", a -> a.sheet(sheet, -1, 1), BAD);
      refused("sheet(" + s + ", 1, -1)", a -> a.sheet(sheet, 1, -1), SIZE);
    }
    refused("sheet(4, 0, 1)", a -> a.sheet(4, 0, 1), BAD);
    refused("sheet(-1, 0, 1)", a -> a.sheet(-1, 0, 1), BAD);
  }

  private void refusedDrop() {
    says(NOTHING);
    refused("drop(-1)", a -> a.drop(-1), BAD);
    refused("drop(4)", a -> a.drop(4), BAD);
    refused("drop(3)", a -> a.drop(3), NULL);
  }

  private void refusedItem() {
    says(NOTHING);
    refused("item(4, 0, 1, 2)", a -> a.item(4, 0, 1, 2), BAD);
    refused("item(0, 3, 1, 2)", a -> a.item(0, 3, 1, 2), BAD);
    refused("item(3, 0, 1, 2)", a -> a.item(3, 0, 1, 2), NULL);
    for (int s = 0; s < 3; s++) {
      int own = s, other = (s + 1) % 3;
      refused("item(" + s + ", " + other + ", 1, 2)", a -> a.item(own, other, 1, 2), CAST);
      refused("item(" + s + ", " + s + ", 16, 2)", a -> a.item(own, own, 16, 2), INDEX);
      refused("item(" + s + ", " + s + ", -1, 2)", a -> a.item(own, own, -1, 2), INDEX);
    }
  }

  private void refusedRead() {
    says(NOTHING);
    refused("read(4, 0, 0)", a -> a.read(4, 0, 0), BAD);
    refused("read(0, 3, 0)", a -> a.read(0, 3, 0), BAD);
    refused("read(3, 0, 0)", a -> a.read(3, 0, 0), NULL);
    refused("read(1, 0, 0)", a -> a.read(1, 0, 0), CAST);
    refused("read(1, 1, 1)", a -> a.read(1, 1, 1), INDEX);
    refused("read(1, 1, -1)", a -> a.read(1, 1, -1), INDEX);
    for (int[] fault : new int[][] {{0, 1}, {4, 0}, {5, 6}, {7, 11}, {12, 21}, {13, -21}, {14, 21}, {15, 11}}) {
      Making faulty = a -> { Arches.furnish(a); a.item(1, 1, fault[0], fault[1]); };
      changesNothing("read with item " + fault[0] + " as " + fault[1], faulty, a -> a.read(1, 1, 0), NOT);
    }
  }

  private void refusedSpread() {
    says(NOTHING);
    refused("spread(11)", a -> a.spread(11), BAD);
    refused("spread(-11)", a -> a.spread(-11), BAD);
    refused("spread(3)", a -> a.spread(3), NOT);
    refused("spread(-6)", a -> a.spread(-6), NOT);
  }

  private void refusedQuestions() {
    says(NOTHING);
    refused("told(4, 0)", a -> a.told(4, 0), TOLD_BAD);
    refused("told(0, 5)", a -> a.told(0, 5), TOLD_BAD);
    refused("thrust(2, 0)", a -> a.thrust(2, 0), BAD);
    refused("thrust(0, 2)", a -> a.thrust(0, 2), BAD);
    refused("height(4, 0)", a -> a.height(4, 0), HEIGHT_BAD);
    refused("height(0, 2)", a -> a.height(0, 2), HEIGHT_BAD);
    refused("bar(0)", a -> a.bar(0), NOT);
    refused("bar(4)", a -> a.bar(4), BAD);
    refused("fits(21, 0, 0, 1)", a -> a.fits(21, 0, 0, 1), BAD);
    refused("factor(2)", a -> a.factor(2), BAD);
    refused("harms(11)", a -> a.harms(11), BAD);
    changesNothing("thrust of what does not stand", Arches::furnishBarred, a -> a.thrust(0, 0), NOT);
    changesNothing("height of what does not stand", Arches::furnishBarred, a -> a.height(0, 0), HEIGHT_NOT);
  }

  private void answeredQuestions() {
    says("Nothing is promised beyond the answers and state changes described above");
    refused("told(1, 4)", a -> a.told(1, 4), furnished().told(1, 4));
    refused("stands()", a -> a.stands(), 1);
    refused("thrust(0, 0)", a -> a.thrust(0, 0), furnished().thrust(0, 0));
    refused("height(1, 0)", a -> a.height(1, 0), furnished().height(1, 0));
    refused("fits(0, 0, 0, 1)", a -> a.fits(0, 0, 0, 1), 0);
    refused("factor(0)", a -> a.factor(0), furnished().factor(0));
    for (int p = 1; p <= 10; p += 9) {
      int more = p;
      refused("harms(" + p + ")", a -> a.harms(more), furnished().harms(p));
    }
    refused("falls()", a -> a.falls(), 0);
    changesNothing("bar(-1) of what does not stand", Arches::furnishBarred, a -> a.bar(-1), 4);
  }

  private void the512thCallIsStillAnswered() {
    says("An object is used for at most 512 calls after it has been made");
    StandingArch arch = new StandingArch();
    int calls = 0;
    for (; calls + 14 < 512; calls++) is("call " + calls + ", a new row", arch.sheet(calls % 4, calls % 3, 28), 28);
    int[] items = {0, 2, 3, 0, 10, 4, 6, 7, 20, -2, -1, 0};
    is("call " + calls, arch.sheet(0, 1, 12), 12);
    for (int i = 0; i < 12; i++) is("item of call " + (calls + 1 + i), arch.item(0, 1, i, items[i]), 1);
    is("call " + (calls + 14) + ", the last", arch.read(0, 1, 0), 1);
    is("these were", calls + 14, 512);
  }
}
