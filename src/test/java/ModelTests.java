import java.util.Random;

/** Runs of calls drawn from fixed seeds, each answer compared with that of ModelArch. Argument: how many rounds. */
public final class ModelTests {
  private static final int[] WILD = {Integer.MIN_VALUE, Integer.MAX_VALUE, -1000, -129, -21, -20, -11, -2, -1, 0, 1, 2,
    3, 4, 5, 6, 7, 9, 10, 11, 20, 21, 28, 29, 127, 128, 255, 256, 1000, 1001};
  private final Due due = new Due();
  private Random random;
  private StandingArch arch;
  private ModelArch model;
  private String run;
  private int calls;
  private int standing, barredByThree, barredByFour, barredByPush, noFactor, noStep;

  public static void main(String[] args) {
    int rounds = args.length > 0 ? Integer.parseInt(args[0]) : 400;
    long seed = args.length > 1 ? Long.parseLong(args[1]) : 1;
    ModelTests tests = new ModelTests();
    for (int round = 0; round < rounds; round++) tests.oneArch(seed * 1000003 + round);
    for (int round = 0; round < rounds; round++) tests.oneRun(seed * 7000003 + round);
    tests.sawAllKinds();
    tests.due.end();
  }

  private void begin(long seed) {
    random = new Random(seed);
    arch = new StandingArch();
    model = new ModelArch();
    run = "seed " + seed + ": ";
    calls = 0;
  }

  private int between(int from, int to) { return from + random.nextInt(to - from + 1); }

  private void same(String call, long got, long want) {
    calls++;
    due.is(run + call, got, want);
  }

  // ---- arches of many shapes, each asked everything

  private void oneArch(long seed) {
    begin(seed);
    int n = between(2, 6);
    same("joints", arch.joints(n), model.joints(n));
    int crown = between(-4, 16), thick = between(0, 6), rough = between(0, 2), bare = between(0, 3);
    for (int turn = 0; turn < 2 * n; turn++) {
      int i = between(1, n), x = between(1, 20);
      if (random.nextBoolean()) same("at", arch.at(i, x), model.at(i, x));
    }
    for (int i = 0; i <= n; i++) {
      int x = model.x[i], far = model.x[n];
      int l = Math.min(18, crown * 4 * x * (far - x) / (far * far) + between(-rough, rough));
      if (random.nextInt(20) == 0) l = between(-20, 20);
      int u = Math.min(20, l + between(0, thick));
      same("edges", arch.edges(i, l, u), model.edges(i, l, u));
      int w = random.nextInt(4) < bare ? 0 : between(0, 10);
      same("load", arch.load(i, w), model.load(i, w));
    }
    askAll();
    notice();
  }

  private void askAll() {
    same("stands", arch.stands(), model.stands());
    for (int part = 0; part < 2; part++) {
      for (int which = 0; which < 2; which++) same("thrust", arch.thrust(which, part), model.thrust(which, part));
      for (int i = 0; i <= model.n; i++) same("height " + i, arch.height(i, part), model.height(i, part));
      same("factor", arch.factor(part), model.factor(part));
    }
    for (int i = -2; i <= 4; i++) same("bar " + i, arch.bar(i), model.bar(i));
    for (int i = 0; i <= model.n; i++)
      for (int what = 0; what < 5; what++) same("told", arch.told(i, what), model.told(i, what));
    for (int p = 1; p <= 10; p += 9) same("harms " + p, arch.harms(p), model.harms(p));
    same("falls", arch.falls(), model.falls());
    for (int turn = 0; turn < 20; turn++) {
      int a = between(model.l[0], model.u[0]), b = between(model.l[model.n], model.u[model.n]);
      int above = between(0, 50), below = between(1, 1000);
      same("fits", arch.fits(a, b, above, below), model.fits(a, b, above, below));
    }
    fitsAtTheLeast();
  }

  private void fitsAtTheLeast() {
    if (arch.height(0, 1) != 1 || arch.height(model.n, 1) != 1) return;
    long above = arch.thrust(0, 1), below = arch.thrust(0, 0);
    if (above < 1 || above > 999 || below < 1 || below > 1000) return;
    int a = (int) arch.height(0, 0), b = (int) arch.height(model.n, 0);
    same("fits at the least thrust", arch.fits(a, b, (int) above, (int) below), 1);
    same("fits beyond it", arch.fits(a, b, (int) above + 1, (int) below), 0);
  }

  private void notice() {
    if (arch.stands() == 1) standing++;
    if (arch.bar(-1) == 3) barredByThree++;
    if (arch.bar(-1) == 4 && arch.bar(3) == 14) barredByPush++;
    if (arch.bar(-1) == 4 && arch.bar(3) != 14) barredByFour++;
    if (arch.factor(0) == -4) noFactor++;
    if (arch.falls() == -4) noStep++;
  }

  private void sawAllKinds() {
    System.out.println(standing + " stand, barred by three " + barredByThree + ", by four " + barredByFour + ", by the push "
      + barredByPush + "; without a factor " + noFactor + "; fall at no step " + noStep);
    due.isTrue("all kinds of arches were met", standing > 0 && barredByThree > 0 && barredByFour > 0 && barredByPush > 0
      && noFactor > 0 && noStep > 0);
  }

  // ---- runs of any calls with any arguments

  private int any(int from, int to) { return random.nextInt(8) == 0 ? WILD[random.nextInt(WILD.length)] : between(from, to); }

  private void oneRun(long seed) {
    begin(seed);
    int n = random.nextInt(3) == 0 ? 2 : between(2, 4);
    same("joints", arch.joints(n), model.joints(n));
    // One turn makes at most 31 calls, the questions behind them 39: an object is used for 512 at most.
    for (int turn = 0; turn < 200 && calls <= 440 && due.wrong() == 0; turn++) {
      if (random.nextInt(12) == 0) sheetOfAnArch(); else oneCall();
    }
    for (int i = 0; i <= 6; i++)
      for (int what = 0; what < 5; what++) same("told", arch.told(i, what), model.told(i, what));
    for (int s = 0; s < 4; s++) same("drop", arch.drop(s), model.drop(s));
  }

  private void oneCall() {
    int a = any(0, 6), b = any(-3, 20), c = any(-2, 12), d = any(-30, 300), s = any(0, 3), lane = any(0, 2);
    int which = any(0, 1), part = any(0, 1);
    int upper = random.nextInt(4) == 0 ? any(-20, 20) : b + between(0, 3);
    switch (random.nextInt(24)) {
      case 0: same("joints " + a, arch.joints(a), model.joints(a)); break;
      case 1: case 2: same("at " + a + " " + b, arch.at(a, b), model.at(a, b)); break;
      case 3: case 4: same("edges " + a + " " + b + " " + upper, arch.edges(a, b, upper), model.edges(a, b, upper)); break;
      case 5: case 6: same("load " + a + " " + c, arch.load(a, c), model.load(a, c)); break;
      case 7: same("sheet", arch.sheet(s, lane, d / 8), model.sheet(s, lane, d / 8)); break;
      case 8: same("drop", arch.drop(s), model.drop(s)); break;
      case 9: case 10: same("item", arch.item(s, lane, b, d), model.item(s, lane, b, d)); break;
      case 11: same("read", arch.read(s, lane, a), model.read(s, lane, a)); break;
      case 12: case 13: same("told", arch.told(a, c), model.told(a, c)); break;
      case 14: same("stands", arch.stands(), model.stands()); break;
      case 15: same("thrust", arch.thrust(which, part), model.thrust(which, part)); break;
      case 16: same("height", arch.height(a, part), model.height(a, part)); break;
      case 17: same("bar " + c, arch.bar(c), model.bar(c)); break;
      case 18: same("fits", arch.fits(b, c, a, d), model.fits(b, c, a, d)); break;
      case 19: same("factor", arch.factor(part), model.factor(part)); break;
      case 20: same("harms " + c, arch.harms(c), model.harms(c)); break;
      case 21: same("falls", arch.falls(), model.falls()); break;
      default: same("spread " + c, arch.spread(c), model.spread(c)); break;
    }
  }

  /** A row that mostly tells an arch, with at most one item changed. */
  private void sheetOfAnArch() {
    int s = between(0, 3), lane = between(0, 2), n = model.n, from = between(0, 24 - 4 * n);
    int size = Math.min(28, from + 4 * n + 4 + between(0, 1));
    same("sheet", arch.sheet(s, lane, size), model.sheet(s, lane, size));
    int x = 0;
    for (int i = 0; i <= n; i++) {
      int l = between(-1, 6);
      put(s, lane, from + 4 * i, x);
      put(s, lane, from + 4 * i + 1, l);
      put(s, lane, from + 4 * i + 2, l + between(0, 3));
      put(s, lane, from + 4 * i + 3, between(0, 10));
      x += between(1, 20 / n);
    }
    if (random.nextBoolean()) put(s, lane, from + between(0, 4 * n + 3), any(-21, 21));
    same("read", arch.read(s, lane, from), model.read(s, lane, from));
  }

  private void put(int s, int lane, int i, int v) { same("item", arch.item(s, lane, i, v), model.item(s, lane, i, v)); }
}
