import java.math.BigInteger;
import java.util.ArrayList;
import java.util.List;

/**
 * The document once more, in another way: every question is a set of linear bounds, answered by going through all
 * corners, and BARS by going through all sets of edges. Slow, plain, and sharing no thought with StandingArch.
 */
final class ModelArch {
  int n = 2;
  int[] x = {0, 10, 20}, l = {0, 0, 0}, u = {1, 1, 1}, w = {0, 0, 0};
  private final long[][] rows = new long[4][];
  private final int[] lanes = new int[4];

  int joints(int newN) {
    if (newN < 2 || newN > 6) return -1;
    n = newN;
    x = new int[n + 1]; l = new int[n + 1]; u = new int[n + 1]; w = new int[n + 1];
    for (int i = 0; i <= n; i++) { x[i] = 20 * i / n; u[i] = 1; }
    return 1;
  }

  int at(int i, int v) {
    if (i < 1 || i > n || v < 0 || v > 20) return -1;
    int was = x[i];
    x[i] = v;
    for (int j = 1; j <= n; j++) if (x[j] <= x[j - 1]) { x[i] = was; return -2; }
    return was;
  }

  int edges(int i, int lo, int hi) {
    if (i < 0 || i > n || !(-20 <= lo && lo <= hi && hi <= 20)) return -1;
    l[i] = lo; u[i] = hi;
    return 1;
  }

  int load(int i, int v) {
    if (i < 1 || i >= n || v < 0 || v > 10) return -1;
    int was = w[i];
    w[i] = v;
    return was;
  }

  int sheet(int s, int lane, int size) {
    if (s < 0 || s > 3 || lane < 0 || lane > 2 || size > 28) return -1;
    if (size < 0) return -14;
    rows[s] = new long[size]; lanes[s] = lane;
    return size;
  }

  int drop(int s) {
    if (s < 0 || s > 3) return -1;
    if (rows[s] == null) return -11;
    int size = rows[s].length;
    rows[s] = null;
    return size;
  }

  private int refusal(int s, int lane) {
    if (s < 0 || s > 3 || lane < 0 || lane > 2) return -1;
    if (rows[s] == null) return -11;
    return lanes[s] != lane ? -12 : 0;
  }

  int item(int s, int lane, int i, int v) {
    int refusal = refusal(s, lane);
    if (refusal != 0) return refusal;
    if (i < 0 || i >= rows[s].length) return -13;
    rows[s][i] = lane == 0 ? ((v + 128) & 255) - 128 : v;
    return 1;
  }

  int read(int s, int lane, int from) {
    int refusal = refusal(s, lane);
    if (refusal != 0) return refusal;
    if (from < 0 || (long) from + 4 * n + 4 > rows[s].length) return -13;
    long[] row = rows[s];
    for (int i = 0; i <= n; i++) {
      int o = from + 4 * i;
      if (i == 0 ? row[o] != 0 : row[o] <= row[o - 4]) return -2;
      if (row[o] > 20 || row[o + 1] < -20 || row[o + 1] > row[o + 2] || row[o + 2] > 20) return -2;
      if (row[o + 3] < 0 || row[o + 3] > 10) return -2;
    }
    for (int i = 0; i <= n; i++) {
      int o = from + 4 * i;
      x[i] = (int) row[o]; l[i] = (int) row[o + 1]; u[i] = (int) row[o + 2];
      w[i] = i == 0 || i == n ? 0 : (int) row[o + 3];
    }
    return 1;
  }

  int told(int i, int what) {
    if (i < 0 || i > n || what < 0 || what > 4) return -100001;
    return what == 0 ? x[i] : what == 1 ? l[i] : what == 2 ? u[i] : what == 3 ? w[i] : (int) m(i, w);
  }

  /** m(i) load by load: a load lifts each joint by the product of the spans on both sides. */
  private long m(int i, int[] loads) {
    long sum = 0;
    for (int j = 1; j < n; j++) sum += loads[j] * Math.min(x[i], x[j]) * (x[n] - Math.max(x[i], x[j]));
    return sum;
  }

  // ---- bounds g . v >= g[last], over v = (a, b, k) or (a, b, k, t)

  /** Edge e as a bound on a, b, k, all times L. */
  private long[] edgeBound(int e, int[] loads) {
    if (e == 14) return new long[] {0, 0, 1, 0};
    int i = e / 2, sign = e % 2 == 0 ? 1 : -1, h = e % 2 == 0 ? l[i] : u[i];
    return new long[] {sign * (x[n] - x[i]), sign * x[i], sign * m(i, loads), (long) sign * x[n] * h};
  }

  private List<Integer> edgeNumbers() {
    List<Integer> all = new ArrayList<>();
    for (int e = 0; e < 2 * n + 2; e++) all.add(e);
    all.add(14);
    return all;
  }

  private List<long[]> bounds(int[] loads) {
    List<long[]> all = new ArrayList<>();
    for (int e : edgeNumbers()) all.add(edgeBound(e, loads));
    return all;
  }

  private List<long[]> thinnedBounds(int[] loads) {
    List<long[]> all = new ArrayList<>();
    for (int i = 0; i <= n; i++) {
      for (int sign = -1; sign <= 1; sign += 2) {
        all.add(new long[] {sign * 2L * (x[n] - x[i]), sign * 2L * x[i], sign * 2 * m(i, loads),
          (long) x[n] * (u[i] - l[i]), (long) sign * x[n] * (l[i] + u[i])});
      }
    }
    all.add(new long[] {0, 0, 1, 0, 0});
    all.add(new long[] {0, 0, 0, 1, 0});
    return all;
  }

  private static long det(long[][] a) {
    if (a.length == 3) return det3(a, 0, 0, 1, 2);
    return a[0][0] * det3(a, 1, 1, 2, 3) - a[0][1] * det3(a, 1, 0, 2, 3)
      + a[0][2] * det3(a, 1, 0, 1, 3) - a[0][3] * det3(a, 1, 0, 1, 2);
  }

  private static long det3(long[][] a, int r, int c, int d, int e) {
    return a[r][c] * (a[r + 1][d] * a[r + 2][e] - a[r + 1][e] * a[r + 2][d])
      - a[r][d] * (a[r + 1][c] * a[r + 2][e] - a[r + 1][e] * a[r + 2][c])
      + a[r][e] * (a[r + 1][c] * a[r + 2][d] - a[r + 1][d] * a[r + 2][c]);
  }

  /** The corner where the chosen bounds are just kept, as numerators and a denominator above 0; null if none. */
  private static long[] corner(List<long[]> bounds, int[] chosen) {
    int d = chosen.length;
    long[][] a = new long[d][d];
    for (int r = 0; r < d; r++) System.arraycopy(bounds.get(chosen[r]), 0, a[r], 0, d);
    long below = det(a);
    if (below == 0) return null;
    long[] v = new long[d + 1];
    for (int c = 0; c < d; c++) {
      long[][] b = new long[d][];
      for (int r = 0; r < d; r++) { b[r] = a[r].clone(); b[r][c] = bounds.get(chosen[r])[d]; }
      v[c] = below < 0 ? -det(b) : det(b);
    }
    v[d] = Math.abs(below);
    for (long[] g : bounds) {
      long sum = 0;
      for (int c = 0; c < d; c++) sum += g[c] * v[c];
      if (sum < g[d] * v[d]) return null;
    }
    return v;
  }

  private static void corners(List<long[]> bounds, int[] chosen, int filled, int next, List<long[]> into) {
    if (filled == chosen.length) {
      long[] v = corner(bounds, chosen);
      if (v != null) into.add(v);
      return;
    }
    for (int e = next; e < bounds.size(); e++) {
      chosen[filled] = e;
      corners(bounds, chosen, filled + 1, e + 1, into);
    }
  }

  private static List<long[]> corners(List<long[]> bounds, int dimensions) {
    List<long[]> all = new ArrayList<>();
    corners(bounds, new int[dimensions], 0, 0, all);
    return all;
  }

  private static int compare(long[] v, long[] o, int c) {
    int d = v.length - 1;
    return big(v[c]).multiply(big(o[d])).compareTo(big(o[c]).multiply(big(v[d])));
  }

  private static BigInteger big(long v) { return BigInteger.valueOf(v); }

  private static long part(long above, long below, int part) {
    long g = big(above).gcd(big(below)).longValueExact();
    return part == 0 ? above / g : below / g;
  }

  private boolean stands(int[] loads) { return !corners(bounds(loads), 3).isEmpty(); }

  int stands() { return stands(w) ? 1 : 0; }

  private boolean bounded() {
    for (int i = 0; i <= n; i++) if (m(i, w) > 0) return true;
    return false;
  }

  long thrust(int which, int part) {
    if (which < 0 || which > 1 || part < 0 || part > 1) return -1;
    List<long[]> all = corners(bounds(w), 3);
    if (all.isEmpty()) return -2;
    if (which == 0 && !bounded()) return -4;
    long[] best = all.get(0);
    for (long[] v : all) if (which == 0 ? compare(v, best, 2) > 0 : compare(v, best, 2) < 0) best = v;
    return best[2] == 0 ? -4 : part(best[3], best[2], part);
  }

  long height(int i, int part) {
    if (i < 0 || i > n || part < 0 || part > 1) return -1000000000000001L;
    List<long[]> all = corners(bounds(w), 3);
    if (all.isEmpty()) return -1000000000000002L;
    if (!bounded()) return -1000000000000004L;
    long[] best = all.get(0);
    for (long[] v : all) {
      int c = -compare(v, best, 2);
      if (c == 0) c = compare(v, best, 0);
      if (c == 0) c = compare(v, best, 1);
      if (c < 0) best = v;
    }
    return part(best[0] * (x[n] - x[i]) + best[1] * x[i] + m(i, w) * best[2], best[3] * x[n], part);
  }

  /** Whether some point keeps all bounds, by striking out one unknown after the other. */
  private static boolean kept(List<long[]> bounds, int unknowns) {
    if (unknowns == 0) {
      for (long[] g : bounds) if (g[3] > 0) return false;
      return true;
    }
    int c = unknowns - 1;
    List<long[]> left = new ArrayList<>();
    for (long[] g : bounds) {
      if (g[c] == 0) left.add(g);
      if (g[c] <= 0) continue;
      for (long[] h : bounds) {
        if (h[c] >= 0) continue;
        long[] sum = new long[4];
        for (int d = 0; d < 4; d++) sum[d] = Math.subtractExact(Math.multiplyExact(h[d], g[c]), Math.multiplyExact(g[d], h[c]));
        left.add(sum);
      }
    }
    return kept(left, c);
  }

  private List<Integer> bars(List<Integer> numbers, int size, int next, List<Integer> chosen) {
    if (chosen.size() == size) {
      List<long[]> some = new ArrayList<>();
      for (int e : chosen) some.add(edgeBound(e, w));
      return kept(some, 3) ? null : new ArrayList<>(chosen);
    }
    for (int t = next; t < numbers.size(); t++) {
      chosen.add(numbers.get(t));
      List<Integer> found = bars(numbers, size, t + 1, chosen);
      if (found != null) return found;
      chosen.remove(chosen.size() - 1);
    }
    return null;
  }

  int bar(int i) {
    if (i < -1 || i > 3) return -1;
    if (stands(w)) return -2;
    for (int size = 1; size <= 4; size++) {
      List<Integer> found = bars(edgeNumbers(), size, 0, new ArrayList<>());
      if (found != null) return i == -1 ? size : i < size ? found.get(i) : -1;
    }
    throw new IllegalStateException("an arch that does not stand has bars");
  }

  int fits(int a, int b, int above, int below) {
    if (Math.abs((long) a) > 20 || Math.abs((long) b) > 20) return -1;
    if (above < 0 || above > 1000 || below < 1 || below > 1000) return -1;
    for (long[] g : bounds(w)) if (g[0] * a * below + g[1] * b * below + g[2] * above < g[3] * below) return 0;
    return 1;
  }

  private long[] leastFactor(int[] loads) {
    long[] best = null;
    for (long[] v : corners(thinnedBounds(loads), 4)) if (best == null || compare(v, best, 3) < 0) best = v;
    return best;
  }

  long factor(int part) {
    if (part < 0 || part > 1) return -1;
    long[] best = leastFactor(w);
    return best == null ? -4 : part(best[3], best[4], part);
  }

  int harms(int p) {
    if (p < 1 || p > 10) return -1;
    int where = 0;
    long[] worst = null;
    for (int i = 1; i < n; i++) {
      int[] loads = w.clone();
      loads[i] += p;
      long[] t = leastFactor(loads);
      if (t == null) return i;
      if (worst == null || compare(t, worst, 3) > 0) { worst = t; where = i; }
    }
    return where;
  }

  int falls() {
    for (int s = 0; s < n; s++) {
      int[] loads = new int[n + 1];
      for (int i = 1; i < n; i++) if (i <= s || i >= n - s) loads[i] = w[i];
      if (!stands(loads)) return s;
    }
    return -4;
  }

  int spread(int d) {
    if (d < -10 || d > 10) return -1;
    if (x[n] + d <= x[n - 1] || x[n] + d > 20) return -2;
    x[n] += d;
    return 1;
  }
}
