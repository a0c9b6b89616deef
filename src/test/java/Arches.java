/** Arches that the tests share, made by calls of the public face alone. */
final class Arches {
  private Arches() { }

  /** A sheet that holds these items. */
  static void put(StandingArch arch, int sheet, int lane, int... items) {
    arch.sheet(sheet, lane, items.length);
    for (int i = 0; i < items.length; i++) arch.item(sheet, lane, i, items[i]);
  }

  /** Joints at the document's places, with edges l, u and loads as given. */
  static StandingArch arch(int[] l, int[] u, int[] w) {
    StandingArch arch = new StandingArch();
    arch.joints(l.length - 1);
    for (int i = 0; i < l.length; i++) arch.edges(i, l[i], u[i]);
    for (int i = 1; i < l.length - 1; i++) arch.load(i, w[i]);
    return arch;
  }

  static StandingArch pointed() {
    return arch(new int[] {0, 4, 0}, new int[] {1, 5, 1}, new int[] {0, 4, 0});
  }

  static StandingArch round() {
    return arch(new int[] {0, 5, 6, 5, 0}, new int[] {1, 7, 8, 7, 1}, new int[] {0, 3, 4, 3, 0});
  }

  /** Straight edges that must sag in the middle: no push that is not below 0 does that. */
  static StandingArch sagging() {
    return arch(new int[] {2, 0, 2}, new int[] {3, 1, 3}, new int[] {0, 1, 0});
  }

  /** Without any thickness, on the line of k 2 by 5: heights 0, 3, 4, 3, 0. */
  static StandingArch thread() {
    return arch(new int[] {0, 3, 4, 3, 0}, new int[] {0, 3, 4, 3, 0}, new int[] {0, 1, 1, 1, 0});
  }

  /** An arch that stands, with nothing as at first; SHEETS 0, 1, 2 are rows of LANES 0, 1, 2 that read takes. */
  static void furnish(StandingArch arch) {
    arch.joints(3);
    arch.at(1, 5);
    arch.at(2, 12);
    arch.at(3, 18);
    int[][] edges = {{-1, 2}, {3, 6}, {4, 7}, {-2, 1}};
    for (int i = 0; i <= 3; i++) arch.edges(i, edges[i][0], edges[i][1]);
    arch.load(1, 3);
    arch.load(2, 4);
    for (int lane = 0; lane < 3; lane++)
      put(arch, lane, lane, 0, -3, 2 + lane, 1, 4, 1, 5, 6 + lane, 9, 2 - lane, 8, 3, 17 + lane, -4, 0, 2);
  }

  /** The same, but its joint 1 lies too low: it does not stand. */
  static void furnishBarred(StandingArch arch) {
    furnish(arch);
    arch.edges(1, -6, -5);
  }
}
