/** Sentences that name a boundary of the arch and its SHEETS: "Terms" 1, promises 1 to 10. */
public final class BoundaryJointsTests extends Boundary {
  public static void main(String[] args) throws IllegalAccessException { new BoundaryJointsTests().runAll(); }

  /** An arch of n stones, each number of each joint other than at first. */
  private static StandingArch changed(int n) {
    StandingArch arch = new StandingArch();
    arch.joints(n);
    for (int i = 1; i <= n; i++) arch.at(i, i);
    for (int i = 0; i <= n; i++) arch.edges(i, -3 - i, 4 + i);
    for (int i = 1; i < n; i++) arch.load(i, 1 + i);
    return arch;
  }

  /** What the document tells of n stones at first. */
  private void isAsAtFirst(String what, StandingArch arch, int n) {
    int[] want = new int[4 * n + 4];
    for (int i = 0; i <= n; i++) {
      want[4 * i] = 20 * i / n;
      want[4 * i + 2] = 1;
    }
    joints(what, arch, want);
  }

  // ---- 1 a new object

  private void aNewArchHasTwoStones() {
    says("n 2 .. 6; 2 at first");
    StandingArch arch = new StandingArch();
    is("told(2, 0)", arch.told(2, 0), 20);
    is("told(3, 0)", arch.told(3, 0), TOLD_BAD);
  }

  private void aNewArchIsAt10I() {
    says("x(n) is 20 at most (10 i at first)");
    StandingArch arch = new StandingArch();
    for (int i = 0; i <= 2; i++) is("told(" + i + ", 0)", arch.told(i, 0), 10 * i);
  }

  private void aNewArchHasEdges0And1() {
    says("l(i) not above u(i) (0, 1 at first)");
    StandingArch arch = new StandingArch();
    for (int i = 0; i <= 2; i++) {
      is("told(" + i + ", 1)", arch.told(i, 1), 0);
      is("told(" + i + ", 2)", arch.told(i, 2), 1);
    }
  }

  private void aNewArchHasNoLoads() {
    says("a load w(i) 0 .. 10 (0 at first");
    StandingArch arch = new StandingArch();
    for (int i = 0; i <= 2; i++) is("told(" + i + ", 3)", arch.told(i, 3), 0);
    is("what it was", arch.load(1, 10), 0);
  }

  private void aNewObjectsSheetsHoldNothing() {
    says("nothing in SHEETS");
    for (int s = 0; s < 4; s++) {
      is("drop(" + s + ")", new StandingArch().drop(s), NULL);
      for (int lane = 0; lane < 3; lane++) {
        is("item(" + s + ", " + lane + ", 0, 0)", new StandingArch().item(s, lane, 0, 0), NULL);
        is("read(" + s + ", " + lane + ", 0)", new StandingArch().read(s, lane, 0), NULL);
      }
    }
  }

  private void aNewObjectIsItsOwn() {
    says("The arch as at first, nothing in SHEETS.");
    StandingArch before = new StandingArch();
    Arches.furnish(new StandingArch());
    isAsAtFirst("an object made before another was changed", before, 2);
    isAsAtFirst("an object made behind it", new StandingArch(), 2);
    is("its sheets", before.drop(0), NULL);
  }

  // ---- 2 joints

  private void jointsTakesTwoToSix() {
    says("AN ARCH has joints 0 .. n (n 2 .. 6");
    for (int n = 2; n <= 6; n++) {
      StandingArch arch = new StandingArch();
      is("joints(" + n + ")", arch.joints(n), 1);
      is("its last joint", arch.told(n, 0), 20);
      is("no joint behind it", arch.told(n + 1, 0), TOLD_BAD);
    }
  }

  private void jointsRefusesOneAndSeven() {
    says("n, the arch is as at first, x(i) 20 i by n (cut down): 1. BAD.");
    StandingArch arch = changed(3);
    for (int n : new int[] {1, 0, -1, -2, LEAST, 7, 8, GREATEST}) is("joints(" + n + ")", arch.joints(n), BAD);
    joints("as it was", arch, 0, -3, 4, 0, 1, -4, 5, 2, 2, -5, 6, 3, 3, -6, 7, 0);
  }

  private void jointsCutsDown() {
    says("x(i) 20 i by n (cut down)");
    int[][] places = {{0, 10, 20}, {0, 6, 13, 20}, {0, 5, 10, 15, 20}, {0, 4, 8, 12, 16, 20}, {0, 3, 6, 10, 13, 16, 20}};
    StandingArch arch = new StandingArch();
    for (int[] x : places) {
      int n = x.length - 1;
      arch.joints(n);
      for (int i = 0; i <= n; i++) is("joints(" + n + "), told(" + i + ", 0)", arch.told(i, 0), x[i]);
    }
  }

  private void jointsMakesTheArchAsAtFirst() {
    says("the arch is as at first");
    for (int was = 2; was <= 6; was++) {
      for (int n = 2; n <= 6; n++) {
        StandingArch arch = changed(was);
        arch.joints(n);
        isAsAtFirst("joints(" + n + ") behind " + was, arch, n);
      }
      StandingArch arch = changed(was);
      arch.joints(2);
      arch.joints(6);
      isAsAtFirst("nothing of " + was + " stones is left", arch, 6);
    }
  }

  private void jointsLeavesTheSheets() {
    says("n, the arch is as at first");
    StandingArch arch = new StandingArch();
    Arches.put(arch, 2, 1, 0, -1, 2, 9, 10, 3, 5, 4, 20, 0, 1, 10);
    arch.joints(2);
    is("a row that was held", arch.read(2, 1, 0), 1);
    is("its items", arch.told(1, 3), 4);
  }

  // ---- 3 at

  private void atTakesInnerJointsAndTheLast() {
    says("x(i) of an inner joint, or the last one: what it was.");
    for (int n = 2; n <= 6; n++) {
      StandingArch arch = new StandingArch();
      arch.joints(n);
      is("at(0, 0) of " + n, arch.at(0, 0), BAD);
      is("at(-1, 5) of " + n, arch.at(-1, 5), BAD);
      for (int i = 1; i <= n; i++) {
        is("at(" + i + ") of " + n, arch.at(i, 20 * i / n - 1), 20 * i / n);
        is("told then", arch.told(i, 0), 20 * i / n - 1);
      }
      for (int i : new int[] {n + 1, 7, 8, LEAST, GREATEST}) is("at(" + i + ", 20) of " + n, arch.at(i, 20), BAD);
    }
  }

  private void atKnowsNoJointThatIsGone() {
    says("x(i) of an inner joint, or the last one");
    StandingArch arch = changed(6);
    arch.joints(2);
    for (int i = 3; i <= 6; i++) is("at(" + i + ", 20)", arch.at(i, 20), BAD);
    isAsAtFirst("as it was", arch, 2);
  }

  private void atKeepsJointsRising() {
    says("NOT: they would not rise");
    StandingArch arch = new StandingArch();
    arch.joints(4);
    is("behind all joints", arch.at(1, 20), NOT);
    for (int i = 2; i <= 3; i++) {
      int ahead = 5 * (i - 1), behind = 5 * (i + 1);
      is("like the joint ahead of " + i, arch.at(i, ahead), NOT);
      is("ahead of the joint ahead of " + i, arch.at(i, ahead - 1), NOT);
      is("just behind the joint ahead of " + i, arch.at(i, ahead + 1), 5 * i);
      is("like the joint behind " + i, arch.at(i, behind), NOT);
      is("behind the joint behind " + i, arch.at(i, Math.min(20, behind + 1)), NOT);
      is("just ahead of the joint behind " + i, arch.at(i, behind - 1), ahead + 1);
      is("back", arch.at(i, 5 * i), behind - 1);
    }
  }

  private void atKeepsTheFirstInnerJointBehind0() {
    says("x(0) is 0, they rise");
    StandingArch arch = new StandingArch();
    is("at(1, 0)", arch.at(1, 0), NOT);
    is("at(1, 1)", arch.at(1, 1), 10);
    is("at(1, -1)", arch.at(1, -1), BAD);
    is("at(1, least)", arch.at(1, LEAST), BAD);
    joints("joint 1 at 1", arch, 0, 0, 1, 0, 1, 0, 1, 0, 20, 0, 1, 0);
  }

  private void atKeepsTheLastJointBehindTheOneAhead() {
    says("NOT: they would not rise");
    StandingArch arch = new StandingArch();
    is("at(2, 10)", arch.at(2, 10), NOT);
    is("at(2, 9)", arch.at(2, 9), NOT);
    is("at(2, 0)", arch.at(2, 0), NOT);
    is("at(2, 11)", arch.at(2, 11), 20);
    is("at(1, 11)", arch.at(1, 11), NOT);
    is("at(1, 10)", arch.at(1, 10), 10);
  }

  private void atTakes20AtMost() {
    says("x(n) is 20 at most");
    for (int n = 2; n <= 6; n++) {
      StandingArch arch = new StandingArch();
      arch.joints(n);
      is("the last at 19", arch.at(n, 19), 20);
      is("the last at 20", arch.at(n, 20), 19);
      for (int x : new int[] {21, 22, GREATEST}) is("the last at " + x, arch.at(n, x), BAD);
      is("it stays", arch.told(n, 0), 20);
    }
  }

  private void atAnswersWhatItWas() {
    says("what it was");
    StandingArch arch = new StandingArch();
    is("at(1, 10), as it is", arch.at(1, 10), 10);
    is("at(1, 19)", arch.at(1, 19), 10);
    is("at(1, 3)", arch.at(1, 3), 19);
    joints("nothing else is changed", arch, 0, 0, 1, 0, 3, 0, 1, 0, 20, 0, 1, 0);
  }

  // ---- 4 edges

  private void edgesGoFromMinus20To20() {
    says("a lower edge l(i) and an upper edge u(i), -20 .. 20");
    StandingArch arch = new StandingArch();
    for (int i = 0; i <= 2; i++) {
      is("both bounds", arch.edges(i, -20, 20), 1);
      is("l -21", arch.edges(i, -21, 20), BAD);
      is("u 21", arch.edges(i, -20, 21), BAD);
      is("both -21", arch.edges(i, -21, -21), BAD);
      is("both 21", arch.edges(i, 21, 21), BAD);
      is("l least", arch.edges(i, LEAST, 0), BAD);
      is("u greatest", arch.edges(i, 0, GREATEST), BAD);
      is("both least", arch.edges(i, LEAST, LEAST), BAD);
      is("both greatest", arch.edges(i, GREATEST, GREATEST), BAD);
      is("l stays", arch.told(i, 1), -20);
      is("u stays", arch.told(i, 2), 20);
    }
  }

  private void edgesMayMeetButNotCross() {
    says("BAD: also l above u.");
    StandingArch arch = new StandingArch();
    for (int y = -20; y <= 20; y++) {
      is("edges(1, " + y + ", " + y + ")", arch.edges(1, y, y), 1);
      if (y < 20) is("one above it", arch.edges(1, y + 1, y), BAD);
      is("l stays", arch.told(1, 1), y);
      is("u stays", arch.told(1, 2), y);
    }
    is("edges(1, 20, -20)", arch.edges(1, 20, -20), BAD);
  }

  private void edgesAreOfEachJoint() {
    says("Edges of a joint: 1.");
    for (int n = 2; n <= 6; n++) {
      StandingArch arch = new StandingArch();
      arch.joints(n);
      for (int i : new int[] {-1, n + 1, 7, LEAST, GREATEST}) is("edges(" + i + ") of " + n, arch.edges(i, 0, 1), BAD);
      for (int i = 0; i <= n; i++) is("edges(" + i + ") of " + n, arch.edges(i, -i, i), 1);
      for (int i = 0; i <= n; i++) {
        is("l(" + i + ")", arch.told(i, 1), -i);
        is("u(" + i + ")", arch.told(i, 2), i);
        is("x(" + i + ")", arch.told(i, 0), 20 * i / n);
      }
    }
  }

  // ---- 5 load

  private void loadsGoFrom0To10() {
    says("a load w(i) 0 .. 10");
    StandingArch arch = new StandingArch();
    is("load(1, 10)", arch.load(1, 10), 0);
    for (int w : new int[] {11, -1, LEAST, GREATEST}) is("load(1, " + w + ")", arch.load(1, w), BAD);
    is("it stays", arch.told(1, 3), 10);
    is("load(1, 0)", arch.load(1, 0), 10);
    is("load(1, 1)", arch.load(1, 1), 0);
    is("told then", arch.told(1, 3), 1);
  }

  private void loadsAreOfInnerJoints() {
    says("A load of an inner joint: what it was. BAD.");
    for (int n = 2; n <= 6; n++) {
      StandingArch arch = new StandingArch();
      arch.joints(n);
      for (int i : new int[] {0, n, n + 1, 7, -1, LEAST, GREATEST}) is("load(" + i + ", 1) of " + n, arch.load(i, 1), BAD);
      for (int i = 1; i < n; i++) is("load(" + i + ") of " + n, arch.load(i, i + 4), 0);
      for (int i = 1; i < n; i++) is("load(" + i + ") again", arch.load(i, i), i + 4);
      for (int i = 0; i <= n; i++) is("w(" + i + ")", arch.told(i, 3), i < n ? i : 0);
    }
  }

  // ---- 6 sheet

  private void sheetsGoFrom0To3() {
    says("SHEETS 0 .. 3 hold nothing (at first), or a row of a LANE");
    StandingArch arch = new StandingArch();
    for (int s : new int[] {-1, 4, LEAST, GREATEST}) is("sheet(" + s + ", 0, 1)", arch.sheet(s, 0, 1), BAD);
    for (int s = 0; s < 4; s++) is("sheet(" + s + ", 0, " + (s + 5) + ")", arch.sheet(s, 0, s + 5), s + 5);
    for (int s = 0; s < 4; s++) is("each holds its own", arch.drop(s), s + 5);
  }

  private void lanesGoFrom0To2() {
    says("a row of a LANE: 0 bytes, 1 ints, 2 longs");
    StandingArch arch = new StandingArch();
    for (int lane : new int[] {-1, 3, LEAST, GREATEST}) is("sheet(0, " + lane + ", 1)", arch.sheet(0, lane, 1), BAD);
    is("nothing is held", arch.drop(0), NULL);
    for (int lane = 0; lane < 3; lane++) {
      is("sheet(0, " + lane + ", 1)", arch.sheet(0, lane, 1), 1);
      for (int taken = 0; taken < 3; taken++) is("taken as " + taken, arch.item(0, taken, 0, 0), taken == lane ? 1 : CAST);
    }
  }

  private void rowsHave0To28Items() {
    says("of 0 to 28 items");
    StandingArch arch = new StandingArch();
    for (int lane = 0; lane < 3; lane++) {
      is("29 items", arch.sheet(1, lane, 29), BAD);
      is("the greatest", arch.sheet(1, lane, GREATEST), BAD);
      is("nothing is held", arch.drop(1), NULL);
      is("28 items", arch.sheet(1, lane, 28), 28);
      is("the last of them", arch.item(1, lane, 27, 0), 1);
      is("none behind it", arch.item(1, lane, 28, 0), INDEX);
      is("28 are dropped", arch.drop(1), 28);
      is("no items", arch.sheet(1, lane, 0), 0);
      is("an empty row is held", arch.item(1, lane, 0, 0), INDEX);
      is("none are dropped", arch.drop(1), 0);
    }
  }

  private void sheetsOfASizeBelow0() {
    says("SIZE: n below 0.");
    StandingArch arch = new StandingArch();
    for (int n : new int[] {-1, -2, -28, -29, LEAST}) is("sheet(0, 0, " + n + ")", arch.sheet(0, 0, n), SIZE);
    is("nothing is held", arch.drop(0), NULL);
    is("sheet(0, 0, 0)", arch.sheet(0, 0, 0), 0);
  }

  private void newRowsAreOfZeros() {
    says("of 0 to 28 items (0 at first)");
    for (int lane = 0; lane < 3; lane++) {
      StandingArch arch = new StandingArch();
      arch.sheet(0, lane, 12);
      // Only x(1), x(2) are told: all else is taken as it is at first.
      arch.item(0, lane, 4, 7);
      arch.item(0, lane, 8, 9);
      is("read of zeros", arch.read(0, lane, 0), 1);
      joints("zeros", arch, 0, 0, 0, 0, 7, 0, 0, 0, 9, 0, 0, 0);
    }
  }

  private void aNewRowTakesTheOldOnesPlace() {
    says("A SHEET holds a new row of a LANE: n.");
    for (int lane = 0; lane < 3; lane++) {
      for (int was = 0; was < 3; was++) {
        StandingArch arch = new StandingArch();
        Arches.put(arch, 0, was, 0, 5, 6, 7, 8, 9, 10, 1, 12, 13, 14, 5);
        is("the old one could be read", arch.read(0, was, 0), 1);
        is("a new one", arch.sheet(0, lane, 12), 12);
        arch.item(0, lane, 4, 7);
        arch.item(0, lane, 8, 9);
        is("read", arch.read(0, lane, 0), 1);
        joints("nothing of the old items is left", arch, 0, 0, 0, 0, 7, 0, 0, 0, 9, 0, 0, 0);
        is("a shorter one", arch.sheet(0, lane, 1), 1);
        is("its items", arch.drop(0), 1);
      }
    }
  }

  private void aRowThatWasDroppedDoesNotComeBack() {
    says("A SHEET holds a new row of a LANE");
    StandingArch arch = new StandingArch();
    Arches.put(arch, 0, 1, 0, 5, 6, 7, 8, 9, 10, 1, 12, 13, 14, 5);
    arch.drop(0);
    arch.sheet(0, 1, 12);
    is("zeros do not rise", arch.read(0, 1, 0), NOT);
  }

  // ---- 7 drop

  private void dropOfSheets0To3() {
    says("A SHEET holds nothing: how many items it had. BAD; NULL.");
    StandingArch arch = new StandingArch();
    for (int s : new int[] {-1, 4, LEAST, GREATEST}) is("drop(" + s + ")", arch.drop(s), BAD);
    for (int s = 0; s < 4; s++) arch.sheet(s, s % 3, 28 - s);
    for (int s = 0; s < 4; s++) {
      is("drop(" + s + ")", arch.drop(s), 28 - s);
      is("drop(" + s + ") again", arch.drop(s), NULL);
      is("item then", arch.item(s, s % 3, 0, 0), NULL);
      is("read then", arch.read(s, s % 3, 0), NULL);
    }
  }

  private void dropLeavesTheOtherSheets() {
    says("A SHEET holds nothing");
    StandingArch arch = new StandingArch();
    Arches.furnish(arch);
    is("drop(1)", arch.drop(1), 16);
    is("read of 0", arch.read(0, 0, 0), 1);
    is("read of 2", arch.read(2, 2, 0), 1);
  }

  private void dropOfAnEmptyRowIsNotNull() {
    says("how many items it had");
    StandingArch arch = new StandingArch();
    arch.sheet(0, 0, 0);
    is("a row of no items", arch.drop(0), 0);
    is("nothing", arch.drop(0), NULL);
  }

  // ---- 8 item

  private void itemTellsBadSheetsAndLanes() {
    says("1. BAD; NULL; CAST; INDEX.");
    StandingArch arch = new StandingArch();
    for (int s = 0; s < 4; s++) arch.sheet(s, 0, 1);
    for (int s : new int[] {-1, 4, LEAST, GREATEST}) is("item of sheet " + s, arch.item(s, 0, 0, 0), BAD);
    for (int lane : new int[] {-1, 3, LEAST, GREATEST}) is("item of lane " + lane, arch.item(0, lane, 0, 0), BAD);
    for (int s = 0; s < 4; s++) is("item of sheet " + s, arch.item(s, 0, 0, 0), 1);
  }

  private void itemsGoFromTheFirstToTheLast() {
    says("Item i of a SHEET");
    for (int lane = 0; lane < 3; lane++) {
      for (int size : new int[] {0, 1, 2, 27, 28}) {
        StandingArch arch = new StandingArch();
        arch.sheet(0, lane, size);
        for (int i = 0; i < size; i++) is("item " + i + " of " + size, arch.item(0, lane, i, 1), 1);
        for (int i : new int[] {-1, size, size + 1, 28, 29, LEAST, GREATEST}) is("item " + i + " of " + size, arch.item(0, lane, i, 1), INDEX);
      }
    }
  }

  private void itemsOfALongerRowAreGone() {
    says("BAD; NULL; CAST; INDEX");
    StandingArch arch = new StandingArch();
    arch.sheet(0, 1, 28);
    arch.sheet(0, 1, 12);
    is("item 12 of a row of 12 that was one of 28", arch.item(0, 1, 12, 0), INDEX);
    is("read from 1 of it", arch.read(0, 1, 1), INDEX);
  }

  private void itemsOfAnotherLaneAreCast() {
    says("taken as a row of a LANE");
    StandingArch arch = new StandingArch();
    for (int lane = 0; lane < 3; lane++) arch.sheet(lane, lane, 1);
    for (int s = 0; s < 3; s++)
      for (int lane = 0; lane < 3; lane++) is("item(" + s + ", " + lane + ")", arch.item(s, lane, 0, 0), s == lane ? 1 : CAST);
  }

  /** v as item 1, the lower edge of joint 0: what read answers then, and if 1, what l(0) is. */
  private void lowerEdge(int lane, int v, int wantRead, int wantEdge) {
    StandingArch arch = new StandingArch();
    Arches.put(arch, 0, lane, 0, v, 20, 0, 10, 0, 1, 0, 20, 0, 1, 0);
    is("lane " + lane + ", " + v + " is read", arch.read(0, lane, 0), wantRead);
    is("lane " + lane + ", " + v + " is", arch.told(0, 1), wantEdge);
  }

  private void itemsOfBytesAreLowestBits() {
    says("becomes v, its lowest bits: 1");
    int[][] taken = {{20, 20}, {-20, -20}, {255, -1}, {256, 0}, {257, 1}, {-256, 0}, {-257, -1}, {236, -20}, {-236, 20},
      {276, 20}, {-276, -20}, {65535, -1}, {65536, 0}, {GREATEST, -1}, {LEAST, 0}, {LEAST + 5, 5}, {GREATEST - 5, -6}};
    for (int[] v : taken) lowerEdge(0, v[0], 1, v[1]);
    // 127 and 128 are the greatest and the least byte: both beyond the edges' bounds.
    for (int v : new int[] {127, 128, -128, -129, 21, 235, -21, -235}) lowerEdge(0, v, NOT, 0);
  }

  private void itemsOfIntsAndLongsAreWhole() {
    says("becomes v, its lowest bits: 1");
    for (int lane = 1; lane < 3; lane++) {
      for (int v = -20; v <= 20; v += 5) lowerEdge(lane, v, 1, v);
      for (int v : new int[] {255, 256, -256, 236, -236, 65536, -65536, 21, -21, LEAST, GREATEST}) lowerEdge(lane, v, NOT, 0);
    }
  }

  private void itemChangesOneItemAlone() {
    says("Item i of a SHEET, taken as a row of a LANE, becomes v");
    for (int lane = 0; lane < 3; lane++) {
      for (int i = 0; i < 12; i++) {
        StandingArch arch = new StandingArch();
        int[] items = {0, -1, 1, 0, 5, -2, 2, 3, 15, -3, 3, 0};
        Arches.put(arch, 0, lane, items);
        Arches.put(arch, 1, lane, items);
        int more = i == 0 || i == 3 || i == 11 ? 0 : 1;
        items[i] += more;
        is("item " + i, arch.item(0, lane, i, items[i]), 1);
        arch.read(0, lane, 0);
        joints("item " + i + " more", arch, items);
        items[i] -= more;
        arch.read(1, lane, 0);
        joints("the other sheet", arch, items);
      }
    }
  }

  // ---- 9 read

  private static final int[] GOOD = {0, -20, 20, 10, 10, -20, -20, 0, 20, 20, 20, 10};

  /** GOOD with one item changed, read into a new arch: the answer; if refused, that the arch is as at first. */
  private void readWith(int item, int v, int want) {
    for (int lane = 0; lane < 3; lane++) {
      StandingArch arch = new StandingArch();
      Arches.put(arch, 0, lane, GOOD);
      arch.item(0, lane, item, v);
      is("lane " + lane + ", item " + item + " as " + v, arch.read(0, lane, 0), want);
      if (want == 1) is("taken", arch.told(item / 4, item % 4), v);
      else isAsAtFirst("refused", arch, 2);
    }
  }

  private void readTakesTheBoundsThemselves() {
    says("All joints' x, l, u, w, one behind the other, are items of a SHEET");
    for (int lane = 0; lane < 3; lane++) {
      StandingArch arch = new StandingArch();
      Arches.put(arch, 3, lane, GOOD);
      is("read", arch.read(3, lane, 0), 1);
      joints("read", arch, 0, -20, 20, 0, 10, -20, -20, 0, 20, 20, 20, 0);
    }
  }

  private void readTellsBadSheetsAndLanes() {
    says("1. BAD; NULL; CAST; INDEX; NOT: they are not as told");
    StandingArch arch = new StandingArch();
    for (int s = 0; s < 4; s++) Arches.put(arch, s, 0, GOOD);
    for (int s : new int[] {-1, 4, LEAST, GREATEST}) is("read of sheet " + s, arch.read(s, 0, 0), BAD);
    for (int lane : new int[] {-1, 3, LEAST, GREATEST}) is("read of lane " + lane, arch.read(0, lane, 0), BAD);
    isAsAtFirst("as it was", arch, 2);
    for (int s = 0; s < 4; s++) is("read of sheet " + s, arch.read(s, 0, 0), 1);
  }

  private void readOfNothingIsNull() {
    says("1. BAD; NULL; CAST; INDEX; NOT: they are not as told");
    StandingArch arch = new StandingArch();
    Arches.put(arch, 0, 1, GOOD);
    arch.drop(0);
    for (int s = 0; s < 4; s++) is("read of sheet " + s, arch.read(s, 1, 0), NULL);
  }

  private void readOfAnotherLaneIsCast() {
    says("taken as a row of a LANE, from one on");
    StandingArch arch = new StandingArch();
    for (int lane = 0; lane < 3; lane++) Arches.put(arch, lane, lane, GOOD);
    for (int s = 0; s < 3; s++)
      for (int lane = 0; lane < 3; lane++) is("read(" + s + ", " + lane + ")", arch.read(s, lane, 0), s == lane ? 1 : CAST);
  }

  private void readNeeds4nAnd4Items() {
    says("from one on (4 n + 4 of them)");
    for (int n = 2; n <= 6; n++) {
      int needed = 4 * n + 4;
      for (int size = needed; size <= 28; size++) {
        StandingArch arch = new StandingArch();
        arch.joints(n);
        arch.sheet(0, 1, size);
        for (int from = 0; from <= size - needed; from++) {
          for (int i = 0; i <= n; i++) arch.item(0, 1, from + 4 * i, i);
          for (int i = 0; i <= n; i++) for (int t = 1; t < 4; t++) arch.item(0, 1, from + 4 * i + t, 0);
          is("read from " + from + " of " + size, arch.read(0, 1, from), 1);
        }
        for (int from : new int[] {size - needed + 1, size - 1, size, 28, -1, LEAST, GREATEST, GREATEST - needed, GREATEST - needed + 1})
          is("read from " + from + " of " + size + " for " + n, arch.read(0, 1, from), INDEX);
      }
      StandingArch arch = new StandingArch();
      arch.joints(n);
      for (int size : new int[] {0, 1, needed - 1}) {
        arch.sheet(0, 1, size);
        is("read from 0 of " + size + " for " + n, arch.read(0, 1, 0), INDEX);
      }
    }
  }

  private void readFromTheLastPlace() {
    says("from one on (4 n + 4 of them)");
    StandingArch arch = new StandingArch();
    int[] row = new int[28];
    System.arraycopy(GOOD, 0, row, 16, 12);
    Arches.put(arch, 0, 2, row);
    is("read from 16 of 28", arch.read(0, 2, 16), 1);
    joints("read", arch, 0, -20, 20, 0, 10, -20, -20, 0, 20, 20, 20, 0);
    is("read from 17 of 28", arch.read(0, 2, 17), INDEX);
    is("read from 15 of 28", arch.read(0, 2, 15), NOT);
  }

  private void readNeedsX0As0() {
    says("NOT: they are not as told (x(0) is 0");
    readWith(0, 1, NOT);
    readWith(0, -1, NOT);
    readWith(0, 0, 1);
  }

  private void readNeedsXToRise() {
    says("x(0) is 0, they rise");
    readWith(4, 1, 1);
    readWith(4, 0, NOT);
    readWith(4, -1, NOT);
    readWith(4, 19, 1);
    readWith(4, 20, NOT);
    readWith(4, 21, NOT);
    readWith(8, 11, 1);
    readWith(8, 10, NOT);
    readWith(8, 9, NOT);
  }

  private void readNeedsTheLastXAs20AtMost() {
    says("x(n) is 20 at most");
    readWith(8, 19, 1);
    readWith(8, 20, 1);
    readWith(8, 21, NOT);
  }

  private void readNeedsEdgesFromMinus20To20() {
    says("a lower edge l(i) and an upper edge u(i), -20 .. 20");
    for (int i = 0; i <= 2; i++) {
      readWith(4 * i + 1, -20, 1);
      readWith(4 * i + 1, -21, NOT);
      readWith(4 * i + 2, 20, 1);
      readWith(4 * i + 2, 21, NOT);
    }
  }

  private void readNeedsLNotAboveU() {
    says("l(i) not above u(i)");
    readWith(1, 20, 1);
    readWith(5, -19, NOT);
    readWith(10, 19, NOT);
    readWith(2, -20, 1);
  }

  private void readNeedsInnerLoadsFrom0To10() {
    says("a load w(i) 0 .. 10");
    readWith(7, 0, 1);
    readWith(7, 10, 1);
    readWith(7, -1, NOT);
    readWith(7, 11, NOT);
  }

  private void readNeedsLoadsOfTheEndsFrom0To10Too() {
    says("w of 0, n is 0 .. 10, too, and counts for nothing");
    for (int item : new int[] {3, 11}) {
      readWith(item, 11, NOT);
      readWith(item, -1, NOT);
      for (int w : new int[] {0, 10}) {
        StandingArch arch = new StandingArch();
        Arches.put(arch, 0, 1, 0, 0, 1, 5, 10, 4, 5, 4, 20, 0, 1, 5);
        arch.item(0, 1, item, w);
        is("w " + w + " of an end", arch.read(0, 1, 0), 1);
        is("told of 0", arch.told(0, 3), 0);
        is("told of n", arch.told(2, 3), 0);
        is("m(1)", arch.told(1, 4), 400);
        fraction("the least thrust", arch.thrust(0, 0), arch.thrust(0, 1), 4, 1);
        fraction("the most", arch.thrust(1, 0), arch.thrust(1, 1), 20, 3);
      }
    }
  }

  private void readLeavesTheRow() {
    says("All joints' x, l, u, w, one behind the other, are items of a SHEET");
    StandingArch arch = new StandingArch();
    Arches.put(arch, 0, 1, GOOD);
    is("read", arch.read(0, 1, 0), 1);
    is("a later item", arch.item(0, 1, 5, -19), 1);
    is("does not change the arch", arch.told(1, 1), -20);
    arch.item(0, 1, 5, -20);
    arch.edges(1, 3, 4);
    is("read again", arch.read(0, 1, 0), 1);
    is("as the row tells", arch.told(1, 1), -20);
    is("the row is held", arch.drop(0), 12);
  }

  // ---- 10 told

  private void toldOfEachJoint() {
    says("Of a joint: 0 x, 1 l, 2 u, 3 w (0 of 0, n), 4 m(i).");
    for (int n = 2; n <= 6; n++) {
      StandingArch arch = changed(n);
      for (int what = 0; what <= 4; what++) {
        for (int i : new int[] {-1, n + 1, 7, 8, LEAST, GREATEST}) is("told(" + i + ", " + what + ") of " + n, arch.told(i, what), TOLD_BAD);
      }
      for (int i = 0; i <= n; i++) {
        is("x", arch.told(i, 0), i);
        is("l", arch.told(i, 1), -3 - i);
        is("u", arch.told(i, 2), 4 + i);
        is("w", arch.told(i, 3), i == 0 || i == n ? 0 : 1 + i);
      }
    }
  }

  private void toldOfWhatFrom0To4() {
    says("BAD less 100000 (-100001)");
    StandingArch arch = changed(6);
    for (int i = 0; i <= 6; i++)
      for (int what : new int[] {-1, 5, 6, LEAST, GREATEST}) is("told(" + i + ", " + what + ")", arch.told(i, what), TOLD_BAD);
    // What a plain BAD would be is an edge like any other.
    arch.edges(0, -1, -1);
    is("an edge at -1", arch.told(0, 1), -1);
  }

  private void toldOfJointsThatAreGone() {
    says("BAD less 100000 (-100001)");
    StandingArch arch = changed(6);
    arch.joints(3);
    for (int i = 4; i <= 6; i++) is("told(" + i + ", 0)", arch.told(i, 0), TOLD_BAD);
  }

  private void mIs0AtBothEnds() {
    says("less L times the sum over inner joints j ahead of i of w(j) (x(i) - x(j))");
    for (int n = 2; n <= 6; n++) {
      StandingArch arch = new StandingArch();
      arch.joints(n);
      for (int i = 1; i < n; i++) arch.load(i, 10);
      is("m(0)", arch.told(0, 4), 0);
      is("m(n)", arch.told(n, 4), 0);
    }
    StandingArch arch = new StandingArch();
    for (int n = 6; n >= 2; n--) {
      arch.joints(n);
      for (int i = 1; i < n; i++) arch.load(i, 10);
      is("m(n - 1) where there were more joints", arch.told(n - 1, 4) > 0 ? 1 : 0, 1);
      is("m(n) where there were more joints", arch.told(n, 4), 0);
    }
  }

  private void mOfOneLoad() {
    says("m(i) being x(i) times the sum over all inner joints j of w(j) (L - x(j))");
    StandingArch arch = changed(3);
    arch.at(3, 20);
    arch.at(2, 15);
    arch.at(1, 4);
    arch.load(1, 0);
    arch.load(2, 10);
    is("ahead of the load", arch.told(1, 4), 4 * 10 * 5);
    is("at the load", arch.told(2, 4), 15 * 10 * 5);
    arch.load(1, 7);
    arch.load(2, 0);
    is("at a load", arch.told(1, 4), 4 * 7 * 16);
    is("behind it", arch.told(2, 4), 15 * 7 * 16 - 20 * 7 * 11);
  }

  private void mOfTheGreatestLoads() {
    says("m(i) being x(i) times the sum over all inner joints j of w(j) (L - x(j))");
    StandingArch arch = new StandingArch();
    arch.joints(6);
    for (int i = 1; i < 6; i++) arch.load(i, 10);
    // x is 0, 3, 6, 10, 13, 16, 20: w(j) (L - x(j)) is 170, 140, 100, 70, 40.
    long[] m = {0, 3 * 520, 6 * 520 - 20 * 30, 10 * 520 - 20 * 110, 13 * 520 - 20 * 200, 16 * 520 - 20 * 320, 0};
    for (int i = 0; i <= 6; i++) is("m(" + i + ")", arch.told(i, 4), m[i]);
  }
}
