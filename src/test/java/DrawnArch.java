import java.util.ArrayList;
import java.util.List;
import java.util.Random;
import java.util.TreeSet;

/** An arch as plain numbers, from which objects are made: none of them is then used for more than 512 calls. */
final class DrawnArch {
  private static final int DRAWN = 400;
  final int n;
  final int[] x, l, u, w;

  private DrawnArch(int n) {
    this.n = n;
    x = new int[n + 1];
    l = new int[n + 1];
    u = new int[n + 1];
    w = new int[n + 1];
  }

  /** Arches from low to high, thin to thick, with many loads and with few; always the same ones. */
  static List<DrawnArch> all() {
    List<DrawnArch> all = new ArrayList<>();
    for (int seed = 0; seed < DRAWN; seed++) all.add(from(new Random(seed * 7919L + 17)));
    return all;
  }

  private static DrawnArch from(Random random) {
    DrawnArch drawn = new DrawnArch(2 + random.nextInt(5));
    int n = drawn.n, crown = random.nextInt(14) - 2, thick = random.nextInt(5), bare = random.nextInt(3);
    TreeSet<Integer> places = new TreeSet<>();
    while (places.size() < n) places.add(1 + random.nextInt(20));
    for (int i = 1; i <= n; i++) drawn.x[i] = places.pollFirst();
    int far = drawn.x[n];
    for (int i = 0; i <= n; i++) {
      drawn.l[i] = crown * 4 * drawn.x[i] * (far - drawn.x[i]) / (far * far) + random.nextInt(2);
      drawn.u[i] = drawn.l[i] + random.nextInt(thick + 1);
      if (i > 0 && i < n && random.nextInt(4) >= bare) drawn.w[i] = random.nextInt(11);
    }
    return drawn;
  }

  DrawnArch copy() {
    DrawnArch copy = new DrawnArch(n);
    int[][] mine = {x, l, u, w}, its = {copy.x, copy.l, copy.u, copy.w};
    for (int what = 0; what < 4; what++) System.arraycopy(mine[what], 0, its[what], 0, n + 1);
    return copy;
  }

  /** m(i) by the document's own sums. */
  int m(int i) {
    int all = 0, ahead = 0;
    for (int j = 1; j < n; j++) all += w[j] * (x[n] - x[j]);
    for (int j = 1; j < i; j++) ahead += w[j] * (x[i] - x[j]);
    return x[i] * all - x[n] * ahead;
  }

  StandingArch made() {
    StandingArch arch = new StandingArch();
    int[] items = new int[4 * n + 4];
    for (int t = 0; t < items.length; t++) items[t] = new int[][] {x, l, u, w}[t % 4][t / 4];
    arch.joints(n);
    Arches.put(arch, 0, 1, items);
    if (arch.read(0, 1, 0) != 1) throw new IllegalStateException("an arch that can't be read: " + this);
    arch.drop(0);
    return arch;
  }

  @Override public String toString() {
    StringBuilder name = new StringBuilder("arch of x l u w");
    for (int i = 0; i <= n; i++)
      name.append(i == 0 ? " " : ", ").append(x[i]).append(' ').append(l[i]).append(' ').append(u[i]).append(' ').append(w[i]);
    return name.toString();
  }
}
