/** One method for each promise of the document: ordinary inputs, the edges that it names, and wrong inputs. */
public final class PromiseTests {
  private static final int LEAST = Integer.MIN_VALUE, GREATEST = Integer.MAX_VALUE;
  private static final long TOLD_BAD = -100001L, HEIGHT_BAD = -1000000000000001L, HEIGHT_NOT = -1000000000000002L,
    HEIGHT_NONE = -1000000000000004L;
  private final Due due = new Due();

  public static void main(String[] args) {
    PromiseTests tests = new PromiseTests();
    tests.promise1NewObject();
    tests.promise2Joints();
    tests.promise3At();
    tests.promise4Edges();
    tests.promise5Load();
    tests.promise6Sheet();
    tests.promise7Drop();
    tests.promise8Item();
    tests.promise9Read();
    tests.promise9ReadRefused();
    tests.promise10Told();
    tests.promise11Stands();
    tests.promise12Thrust();
    tests.promise13Height();
    tests.promise14Bar();
    tests.promise15Fits();
    tests.promise16Factor();
    tests.promise17Harms();
    tests.promise18Falls();
    tests.promise19Spread();
    tests.due.end();
  }

  // ---- helps

  /** The joints' x, l, u, w as they are told, one behind the other. */
  private void joints(String what, StandingArch arch, int... want) {
    for (int t = 0; t < want.length; t++) due.is(what + ", told(" + t / 4 + ", " + t % 4 + ")", arch.told(t / 4, t % 4), want[t]);
    due.is(what + ", no joint more", arch.told(want.length / 4, 0), TOLD_BAD);
  }

  private void fraction(String what, long above, long below, long wantAbove, long wantBelow) {
    due.is(what + " above", above, wantAbove);
    due.is(what + " below", below, wantBelow);
  }

  // ---- 1 joints

  private void promise1NewObject() {
    StandingArch arch = new StandingArch();
    joints("a new arch", arch, 0, 0, 1, 0, 10, 0, 1, 0, 20, 0, 1, 0);
    for (int s = 0; s < 4; s++) due.is("a new object's sheet", arch.drop(s), -11);
    for (int s = 0; s < 4; s++) due.is("a new object's sheet, read", arch.read(s, 0, 0), -11);
    due.is("a new arch stands", arch.stands(), 1);
    StandingArch other = new StandingArch();
    other.edges(0, 5, 6);
    due.is("objects share nothing", arch.told(0, 1), 0);
  }

  private void promise2Joints() {
    StandingArch arch = new StandingArch();
    due.is("joints(3)", arch.joints(3), 1);
    joints("three stones", arch, 0, 0, 1, 0, 6, 0, 1, 0, 13, 0, 1, 0, 20, 0, 1, 0);
    due.is("joints(6)", arch.joints(6), 1);
    for (int i = 0; i <= 6; i++) due.is("six stones, x", arch.told(i, 0), 20 * i / 6);
    arch.edges(3, -5, 5);
    arch.load(3, 7);
    Arches.put(arch, 1, 1, 4, 5);
    for (int n : new int[] {LEAST, -1, 0, 1, 7, GREATEST}) due.is("joints(" + n + ")", arch.joints(n), -1);
    due.is("refused joints change nothing, n", arch.told(6, 0), 20);
    due.is("refused joints change nothing, l", arch.told(3, 1), -5);
    due.is("refused joints change nothing, w", arch.told(3, 3), 7);
    due.is("joints(6) again", arch.joints(6), 1);
    due.is("joints as at first, l", arch.told(3, 1), 0);
    due.is("joints as at first, u", arch.told(3, 2), 1);
    due.is("joints as at first, w", arch.told(3, 3), 0);
    due.is("sheets stay", arch.drop(1), 2);
    due.is("joints(2)", arch.joints(2), 1);
    joints("two stones", arch, 0, 0, 1, 0, 10, 0, 1, 0, 20, 0, 1, 0);
  }

  private void promise3At() {
    StandingArch arch = new StandingArch();
    due.is("at(1, 1)", arch.at(1, 1), 10);
    due.is("at(1, 19)", arch.at(1, 19), 1);
    due.is("at(1, 20), like the last", arch.at(1, 20), -2);
    due.is("at(1, 0), like the first", arch.at(1, 0), -2);
    due.is("at(2, 19), like the one ahead", arch.at(2, 19), -2);
    due.is("at(2, 3), ahead of the one ahead", arch.at(2, 3), -2);
    due.is("at(1, 5)", arch.at(1, 5), 19);
    due.is("at(2, 6), the last joint", arch.at(2, 6), 20);
    due.is("at(1, 6), like the last", arch.at(1, 6), -2);
    due.is("at(1, 5), as it is", arch.at(1, 5), 5);
    due.is("at(2, 20)", arch.at(2, 20), 6);
    for (int x : new int[] {21, GREATEST, -1, LEAST}) due.is("at(2, " + x + ")", arch.at(2, x), -1);
    for (int i : new int[] {0, -1, LEAST, 3, 6, 7, GREATEST}) due.is("at(" + i + ", 12)", arch.at(i, 12), -1);
    due.is("BAD is ahead of NOT", arch.at(3, 0), -1);
    joints("what is refused changes nothing", arch, 0, 0, 1, 0, 5, 0, 1, 0, 20, 0, 1, 0);
  }

  private void promise4Edges() {
    StandingArch arch = new StandingArch();
    due.is("edges(0, -20, 20)", arch.edges(0, -20, 20), 1);
    due.is("edges(1, 20, 20)", arch.edges(1, 20, 20), 1);
    due.is("edges(2, -20, -20)", arch.edges(2, -20, -20), 1);
    due.is("edges(0, 3, 2)", arch.edges(0, 3, 2), -1);
    due.is("edges(0, -21, 2)", arch.edges(0, -21, 2), -1);
    due.is("edges(0, 2, 21)", arch.edges(0, 2, 21), -1);
    due.is("edges(0, least, greatest)", arch.edges(0, LEAST, GREATEST), -1);
    for (int i : new int[] {-1, LEAST, 3, 7, GREATEST}) due.is("edges(" + i + ", 0, 1)", arch.edges(i, 0, 1), -1);
    joints("edges", arch, 0, -20, 20, 0, 10, 20, 20, 0, 20, -20, -20, 0);
  }

  private void promise5Load() {
    StandingArch arch = new StandingArch();
    arch.joints(3);
    due.is("load(1, 10)", arch.load(1, 10), 0);
    due.is("load(1, 4)", arch.load(1, 4), 10);
    due.is("load(2, 9)", arch.load(2, 9), 0);
    due.is("load(2, 0)", arch.load(2, 0), 9);
    for (int w : new int[] {-1, 11, LEAST, GREATEST}) due.is("load(1, " + w + ")", arch.load(1, w), -1);
    for (int i : new int[] {0, 3, 4, -1, 7, LEAST, GREATEST}) due.is("load(" + i + ", 1)", arch.load(i, 1), -1);
    joints("loads", arch, 0, 0, 1, 0, 6, 0, 1, 4, 13, 0, 1, 0, 20, 0, 1, 0);
  }

  private void promise6Sheet() {
    StandingArch arch = new StandingArch();
    due.is("sheet(0, 0, 28)", arch.sheet(0, 0, 28), 28);
    due.is("sheet(3, 2, 0)", arch.sheet(3, 2, 0), 0);
    due.is("an empty row is a row", arch.drop(3), 0);
    due.is("sheet(1, 1, 29)", arch.sheet(1, 1, 29), -1);
    due.is("sheet(1, 1, greatest)", arch.sheet(1, 1, GREATEST), -1);
    due.is("sheet(1, 1, -1)", arch.sheet(1, 1, -1), -14);
    due.is("sheet(1, 1, least)", arch.sheet(1, 1, LEAST), -14);
    for (int s : new int[] {-1, 4, LEAST, GREATEST}) due.is("sheet(" + s + ", 0, -1)", arch.sheet(s, 0, -1), -1);
    for (int lane : new int[] {-1, 3, LEAST, GREATEST}) due.is("sheet(0, " + lane + ", -1)", arch.sheet(0, lane, -1), -1);
    due.is("what is refused is not held", arch.drop(1), -11);
    due.is("what is refused does not change a row", arch.drop(0), 28);
    Arches.put(arch, 2, 1, 0, 0, 1, 0, 10, 0, 1, 5, 20, 0, 1, 0);
    due.is("read of a row", arch.read(2, 1, 0), 1);
    due.is("sheet(2, 1, 12) anew", arch.sheet(2, 1, 12), 12);
    due.is("a new row's items are 0", arch.read(2, 1, 0), -2);
    due.is("sheet(2, 2, 3) of another lane", arch.sheet(2, 2, 3), 3);
    due.is("the old lane is gone", arch.item(2, 1, 0, 0), -12);
  }

  private void promise7Drop() {
    StandingArch arch = new StandingArch();
    arch.sheet(0, 0, 5);
    arch.sheet(1, 1, 28);
    due.is("drop(0)", arch.drop(0), 5);
    due.is("drop(0) again", arch.drop(0), -11);
    due.is("item of what was dropped", arch.item(0, 0, 0, 0), -11);
    due.is("drop(1)", arch.drop(1), 28);
    due.is("drop(2)", arch.drop(2), -11);
    for (int s : new int[] {-1, 4, LEAST, GREATEST}) due.is("drop(" + s + ")", arch.drop(s), -1);
  }

  private void promise8Item() {
    StandingArch arch = new StandingArch();
    due.is("item of nothing", arch.item(0, 0, 0, 1), -11);
    arch.sheet(0, 0, 12);
    arch.sheet(1, 1, 12);
    arch.sheet(2, 2, 12);
    for (int s = 0; s < 3; s++) {
      for (int lane = 0; lane < 3; lane++) due.is("item(" + s + ", " + lane + ")", arch.item(s, lane, 11, 1), s == lane ? 1 : -12);
      for (int i : new int[] {-1, 12, 28, LEAST, GREATEST}) due.is("item " + i, arch.item(s, s, i, 1), -13);
      due.is("CAST is ahead of INDEX", arch.item(s, (s + 1) % 3, -1, 1), -12);
    }
    due.is("NULL is ahead of INDEX", arch.item(3, 0, -1, 1), -11);
    for (int bad : new int[] {-1, 4, LEAST, GREATEST}) due.is("BAD is ahead of NULL, sheet", arch.item(bad, 0, 0, 1), -1);
    for (int bad : new int[] {-1, 3, LEAST, GREATEST}) due.is("BAD is ahead of NULL, lane", arch.item(3, bad, 0, 1), -1);
    // 256 + 5 has 5 as its lowest byte, 255 has -1: so a row of bytes tells an arch that rows of ints or longs do not.
    for (int lane = 0; lane < 3; lane++) {
      Arches.put(arch, lane, lane, 0, 255, 256 + 5, 0, 256 + 10, 0, 1, 512 + 7, 20, 0, 1, 0);
      due.is("read of lane " + lane, arch.read(lane, lane, 0), lane == 0 ? 1 : -2);
    }
    joints("lowest bits", arch, 0, -1, 5, 0, 10, 0, 1, 7, 20, 0, 1, 0);
    Arches.put(arch, 0, 0, 0, 128, 1, 0, 10, 0, 1, 0, 20, 0, 1, 0);
    due.is("128 is -128 as a byte", arch.read(0, 0, 0), -2);
    for (int lane = 1; lane < 3; lane++) {
      Arches.put(arch, lane, lane, 0, -3, -2, 0, 10, -1, 1, 2, 20, 0, 1, 0);
      due.is("read of lane " + lane + ", below 0", arch.read(lane, lane, 0), 1);
      due.is("it keeps its sign", arch.told(0, 1), -3);
    }
  }

  private void promise9Read() {
    StandingArch arch = new StandingArch();
    for (int lane = 0; lane < 3; lane++) {
      Arches.put(arch, lane, lane, 99, 0, -20, 20, 10, 1, -1, -1, 10, 2, 3, 4, 0, 99);
      due.is("read from 1", arch.read(lane, lane, 1), 1);
      joints("read", arch, 0, -20, 20, 0, 1, -1, -1, 10, 2, 3, 4, 0);
      arch.joints(2);
    }
    arch.joints(6);
    int[] items = new int[28];
    for (int i = 0; i <= 6; i++) {
      items[4 * i] = i == 6 ? 20 : 2 * i;
      items[4 * i + 1] = -i;
      items[4 * i + 2] = i;
      items[4 * i + 3] = i + 1;
    }
    Arches.put(arch, 3, 0, items);
    due.is("read of 28 items", arch.read(3, 0, 0), 1);
    items[3] = 0;
    items[27] = 0;
    joints("six stones read", arch, items);
    due.is("read from 1 of 28", arch.read(3, 0, 1), -13);
    arch.joints(5);
    due.is("n is the arch's own", arch.read(3, 0, 4), -2);
    due.is("24 items from 5", arch.read(3, 0, 5), -13);
    due.is("24 items from 0", arch.read(3, 0, 0), 1);
    due.is("the last joint then", arch.told(5, 0), 10);
  }

  private void promise9ReadRefused() {
    StandingArch arch = new StandingArch();
    due.is("NULL", arch.read(0, 0, -1), -11);
    int[] good = {0, -1, 2, 9, 10, 3, 5, 4, 20, 0, 1, 10};
    Arches.put(arch, 0, 1, good);
    for (int bad : new int[] {-1, 4, LEAST, GREATEST}) due.is("BAD sheet", arch.read(bad, 1, 0), -1);
    for (int bad : new int[] {-1, 3, LEAST, GREATEST}) due.is("BAD lane", arch.read(0, bad, 0), -1);
    due.is("BAD is ahead of NULL", arch.read(1, 3, 0), -1);
    due.is("CAST is ahead of INDEX", arch.read(0, 2, -1), -12);
    for (int from : new int[] {-1, LEAST, 1, 12, GREATEST, GREATEST - 11}) due.is("read from " + from, arch.read(0, 1, from), -13);
    int[][] faults = {{0, 1}, {0, -1}, {1, -21}, {1, 3}, {2, 21}, {2, -2}, {3, -1}, {3, 11}, {4, 0}, {4, -5}, {4, 20}, {4, 25},
      {5, 6}, {7, 11}, {7, -1}, {8, 10}, {8, 21}, {8, GREATEST}, {9, 2}, {10, GREATEST}, {11, 11}, {11, -1}, {3, LEAST}};
    for (int[] fault : faults) {
      arch.item(0, 1, fault[0], fault[1]);
      due.is("item " + fault[0] + " as " + fault[1], arch.read(0, 1, 0), -2);
      arch.item(0, 1, fault[0], good[fault[0]]);
    }
    arch.item(0, 1, 8, 21);
    due.is("INDEX is ahead of NOT", arch.read(0, 1, 1), -13);
    joints("what is refused changes nothing", arch, 0, 0, 1, 0, 10, 0, 1, 0, 20, 0, 1, 0);
    arch.item(0, 1, 8, 20);
    due.is("all mended", arch.read(0, 1, 0), 1);
    joints("w of the ends counts for nothing", arch, 0, -1, 2, 0, 10, 3, 5, 4, 20, 0, 1, 0);
  }

  private void promise10Told() {
    StandingArch arch = new StandingArch();
    for (int i : new int[] {-1, 3, 6, 7, LEAST, GREATEST}) due.is("told(" + i + ", 0)", arch.told(i, 0), TOLD_BAD);
    for (int what : new int[] {-1, 5, LEAST, GREATEST}) due.is("told(0, " + what + ")", arch.told(0, what), TOLD_BAD);
    arch.joints(4);
    for (int i = 1; i < 4; i++) arch.load(i, i == 1 ? 10 : 4 - i);
    long[] moments = {0, 75 * 10 + 50 * 2 + 25, 50 * 10 + 100 * 2 + 50, 25 * 10 + 50 * 2 + 75, 0};
    for (int i = 0; i <= 4; i++) due.is("told(" + i + ", 4)", arch.told(i, 4), moments[i]);
    arch.harms(10);
    arch.falls();
    for (int i = 0; i <= 4; i++) due.is("told(" + i + ", 4) after trials", arch.told(i, 4), moments[i]);
  }

  // ---- 2 lines

  private void promise11Stands() {
    due.is("pointed", Arches.pointed().stands(), 1);
    due.is("round", Arches.round().stands(), 1);
    due.is("sagging", Arches.sagging().stands(), 0);
    StandingArch arch = Arches.arch(new int[] {0, 3, 4, 3, 0}, new int[] {0, 3, 4, 3, 0}, new int[] {0, 1, 1, 1, 0});
    due.is("as thin as the line", arch.stands(), 1);
    arch.load(2, 2);
    due.is("as thin as another line", arch.stands(), 0);
    arch.load(2, 0);
    due.is("the middle unloaded", arch.stands(), 0);
    StandingArch bare = Arches.pointed();
    bare.load(1, 0);
    due.is("nothing bends an unloaded line", bare.stands(), 0);
    bare.edges(1, 1, 5);
    due.is("a straight line at the very edge", bare.stands(), 1);
  }

  private void promise12Thrust() {
    StandingArch arch = Arches.pointed();
    fraction("pointed, least", arch.thrust(0, 0), arch.thrust(0, 1), 4, 1);
    fraction("pointed, most", arch.thrust(1, 0), arch.thrust(1, 1), 20, 3);
    arch.edges(1, 1, 5);
    fraction("most at k 0", arch.thrust(1, 0), arch.thrust(1, 1), -4, -4);
    fraction("least all the same", arch.thrust(0, 0), arch.thrust(0, 1), 4, 1);
    arch.edges(1, 1, 1);
    arch.edges(0, 1, 1);
    arch.edges(2, 1, 1);
    fraction("least at k 0", arch.thrust(0, 0), arch.thrust(0, 1), -4, -4);
    StandingArch free = new StandingArch();
    fraction("k has no greatest", free.thrust(0, 0), free.thrust(0, 1), -4, -4);
    fraction("its least is 0", free.thrust(1, 0), free.thrust(1, 1), -4, -4);
    fraction("sagging", Arches.sagging().thrust(0, 0), Arches.sagging().thrust(1, 1), -2, -2);
    for (int bad : new int[] {-1, 2, LEAST, GREATEST}) {
      due.is("thrust(" + bad + ", 0)", arch.thrust(bad, 0), -1);
      due.is("thrust(0, " + bad + ")", Arches.sagging().thrust(0, bad), -1);
    }
  }

  private void promise13Height() {
    StandingArch arch = Arches.arch(new int[] {0, 5, 6, 5, 0}, new int[] {1, 7, 8, 7, 1}, new int[] {0, 10, 4, 3, 0});
    long[][] line = {{0, 1}, {7, 1}, {22, 3}, {5, 1}, {2, 3}};
    for (int i = 0; i <= 4; i++) fraction("height of " + i, arch.height(i, 0), arch.height(i, 1), line[i][0], line[i][1]);
    StandingArch below = Arches.arch(new int[] {-3, -20, -3}, new int[] {-3, -2, -2}, new int[] {0, 3, 0});
    fraction("of many the least b", below.height(2, 0), below.height(2, 1), -3, 1);
    fraction("a height below 0", below.height(1, 0), below.height(1, 1), -2, 1);
    // Joints 1, 2 alone fix the push; a is as low as 1, 2 let it be.
    StandingArch least = Arches.arch(new int[] {-20, 0, 10, -20}, new int[] {20, 0, 10, 20}, new int[] {0, 0, 1, 0});
    fraction("least a", least.height(0, 0), least.height(0, 1), -60, 7);
    StandingArch still = Arches.arch(new int[] {0, 0, 0}, new int[] {0, 0, 0}, new int[] {0, 5, 0});
    fraction("the greatest k is 0", still.height(1, 0), still.height(1, 1), 0, 1);
    StandingArch free = new StandingArch();
    fraction("k has no greatest", free.height(0, 0), free.height(2, 1), HEIGHT_NONE, HEIGHT_NONE);
    fraction("it does not stand", Arches.sagging().height(0, 0), Arches.sagging().height(2, 1), HEIGHT_NOT, HEIGHT_NOT);
    for (int bad : new int[] {-1, 3, 7, LEAST, GREATEST}) due.is("height(" + bad + ", 0)", Arches.sagging().height(bad, 0), HEIGHT_BAD);
    for (int bad : new int[] {-1, 2, LEAST, GREATEST}) due.is("height(0, " + bad + ")", free.height(0, bad), HEIGHT_BAD);
  }

  private void bars(String what, StandingArch arch, int... want) {
    due.is(what + ", how many bars", arch.bar(-1), want.length);
    for (int i = 0; i < 4; i++) due.is(what + ", bar " + i, arch.bar(i), i < want.length ? want[i] : -1);
  }

  private void promise14Bar() {
    StandingArch arch = Arches.round();
    for (int i = -1; i < 4; i++) due.is("bar of what stands", arch.bar(i), -2);
    for (int bad : new int[] {-2, 4, LEAST, GREATEST}) {
      due.is("bar(" + bad + ") of what stands", arch.bar(bad), -1);
      due.is("bar(" + bad + ") of what does not", Arches.sagging().bar(bad), -1);
    }
    bars("sagging", Arches.sagging(), 0, 3, 4, 14);
    StandingArch unloaded = Arches.sagging();
    unloaded.load(1, 0);
    bars("sagging, without a load", unloaded, 0, 3, 4);
    StandingArch high = Arches.pointed();
    high.load(1, 0);
    bars("pointed, without a load", high, 1, 2, 5);
    bars("the left too low", Arches.arch(new int[] {0, 2, 3, 0}, new int[] {0, 2, 3, 0}, new int[] {0, 1, 1, 0}), 0, 3, 4, 7);
    bars("the left too high", Arches.arch(new int[] {0, 3, 2, 0}, new int[] {0, 3, 2, 0}, new int[] {0, 1, 1, 0}), 1, 2, 5, 6);
    // 1, 2, 5, 6 bar as well: the first set by numbers is told.
    bars("the middle too heavy", Arches.arch(new int[] {0, 3, 4, 3, 0}, new int[] {0, 3, 4, 3, 0}, new int[] {0, 1, 2, 1, 0}), 0, 5, 6, 9);
    bars("the middle too light", Arches.arch(new int[] {0, 5, 9, 5, 0}, new int[] {1, 6, 10, 6, 1}, new int[] {0, 9, 1, 9, 0}), 0, 3, 4, 7);
    StandingArch three = Arches.round();
    three.load(1, 10);
    three.load(3, 0);
    bars("three are fewer than four", three, 5, 6, 9);
  }

  private void promise15Fits() {
    StandingArch arch = Arches.pointed();
    due.is("the least thrust's line", arch.fits(0, 0, 1, 4), 1);
    due.is("beyond it", arch.fits(0, 0, 251, 1000), 0);
    due.is("the most thrust's line", arch.fits(1, 1, 3, 20), 1);
    due.is("below it", arch.fits(1, 1, 149, 1000), 0);
    due.is("too low at 0", arch.fits(-1, 1, 1, 5), 0);
    due.is("too high at n", arch.fits(0, 2, 1, 5), 0);
    due.is("k 0", arch.fits(0, 0, 0, 1000), 0);
    due.is("the greatest k", arch.fits(0, 0, 1000, 1), 0);
    for (int bad : new int[] {-21, 21, LEAST, GREATEST}) {
      due.is("a " + bad, arch.fits(bad, 0, 1, 4), -1);
      due.is("b " + bad, arch.fits(0, bad, 1, 4), -1);
    }
    for (int bad : new int[] {-1, 1001, LEAST, GREATEST}) due.is("above " + bad, arch.fits(0, 0, bad, 4), -1);
    for (int bad : new int[] {0, -1, 1001, LEAST, GREATEST}) due.is("below " + bad, arch.fits(0, 0, 1, bad), -1);
    StandingArch wide = Arches.arch(new int[] {-20, -20, -20}, new int[] {20, 20, 20}, new int[] {0, 10, 0});
    due.is("a, b 20", wide.fits(20, 20, 0, 1), 1);
    due.is("a, b -20", wide.fits(-20, -20, 4, 5), 1);
    due.is("a, b -20, k beyond", wide.fits(-20, -20, 801, 1000), 0);
  }

  // ---- 3 what may become of it

  private void promise16Factor() {
    fraction("round", Arches.round().factor(0), Arches.round().factor(1), 6, 13);
    fraction("pointed", Arches.pointed().factor(0), Arches.pointed().factor(1), 0, 1);
    fraction("sagging", Arches.sagging().factor(0), Arches.sagging().factor(1), 2, 1);
    StandingArch arch = Arches.round();
    arch.load(1, 10);
    arch.load(3, 0);
    fraction("beyond 1", arch.factor(0), arch.factor(1), 11, 7);
    StandingArch thin = Arches.arch(new int[] {0, 3, 4, 3, 0}, new int[] {0, 3, 4, 3, 0}, new int[] {0, 1, 1, 1, 0});
    fraction("no thickness, but on the line", thin.factor(0), thin.factor(1), 0, 1);
    thin.load(2, 2);
    fraction("no thickness, off the line", thin.factor(0), thin.factor(1), -4, -4);
    thin.edges(2, 4, 6);
    fraction("one joint has some", thin.factor(0), thin.factor(1), 1, 2);
    StandingArch bare = Arches.arch(new int[] {0, 2, 0}, new int[] {0, 2, 0}, new int[] {0, 0, 0});
    fraction("no thickness, no load, not straight", bare.factor(0), bare.factor(1), -4, -4);
    bare.edges(0, -1, 1);
    fraction("some thickness at 0", bare.factor(0), bare.factor(1), 4, 1);
    for (int bad : new int[] {-1, 2, LEAST, GREATEST}) due.is("factor(" + bad + ")", thin.factor(bad), -1);
  }

  private void promise17Harms() {
    due.is("round, 1", Arches.round().harms(1), 2);
    due.is("round, 10: like ones, the first", Arches.round().harms(10), 1);
    StandingArch arch = Arches.arch(new int[] {0, 4, 7, 8, 7, 4, 0}, new int[] {2, 8, 11, 12, 11, 8, 2}, new int[] {0, 2, 3, 5, 3, 2, 0});
    due.is("six stones, 1", arch.harms(1), 3);
    due.is("six stones, 10", arch.harms(10), 5);
    due.is("nothing is changed", arch.told(5, 3), 2);
    due.is("an arch of two", Arches.pointed().harms(10), 1);
    // Only one more at joint 2 makes the line of these edges.
    StandingArch thin = Arches.arch(new int[] {0, 3, 4, 3, 0}, new int[] {0, 3, 4, 3, 0}, new int[] {0, 1, 0, 1, 0});
    due.is("no factor at the first", thin.harms(1), 1);
    StandingArch late = Arches.arch(new int[] {0, 3, 4, 3, 0}, new int[] {0, 3, 4, 3, 0}, new int[] {0, 0, 1, 1, 0});
    due.is("no factor behind the first", late.harms(1), 2);
    for (int bad : new int[] {0, -1, 11, LEAST, GREATEST}) due.is("harms(" + bad + ")", arch.harms(bad), -1);
  }

  private void promise18Falls() {
    due.is("round", Arches.round().falls(), 0);
    due.is("sagging", Arches.sagging().falls(), 0);
    due.is("a new arch", new StandingArch().falls(), -4);
    StandingArch flat = Arches.arch(new int[] {0, 1, 0, 1, 0}, new int[] {1, 2, 1, 2, 1}, new int[] {0, 9, 0, 9, 0});
    due.is("a straight line holds at every step", flat.falls(), -4);
    due.is("nothing is changed", flat.told(1, 3), 9);
    flat.edges(2, 0, 0);
    due.is("no straight line", flat.falls(), 0);
  }

  private void promise19Spread() {
    StandingArch arch = new StandingArch();
    arch.load(1, 3);
    due.is("spread(1), beyond 20", arch.spread(1), -2);
    due.is("spread(-10), at the joint ahead", arch.spread(-10), -2);
    due.is("spread(-9)", arch.spread(-9), 1);
    joints("spread", arch, 0, 0, 1, 0, 10, 0, 1, 3, 11, 0, 1, 0);
    due.is("m then", arch.told(1, 4), 30);
    due.is("spread(-1)", arch.spread(-1), -2);
    due.is("spread(10), beyond 20", arch.spread(10), -2);
    due.is("spread(0)", arch.spread(0), 1);
    due.is("spread(9)", arch.spread(9), 1);
    arch.at(1, 1);
    due.is("spread(-10)", arch.spread(-10), 1);
    due.is("spread(10)", arch.spread(10), 1);
    for (int bad : new int[] {-11, 11, LEAST, GREATEST}) due.is("spread(" + bad + ")", arch.spread(bad), -1);
    joints("what is refused changes nothing", arch, 0, 0, 1, 0, 1, 0, 1, 3, 20, 0, 1, 0);
  }
}
