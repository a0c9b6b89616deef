/** Counts answers that are not as due, and tells the first of them. */
final class Due {
  private static final int TOLD = 50;
  private int asked, wrong;

  void is(String call, long got, long want) {
    asked++;
    if (got == want) return;
    wrong++;
    if (wrong <= TOLD) System.out.println(call + " answered " + got + ", due is " + want);
  }

  void isTrue(String what, boolean holds) { is(what, holds ? 1 : 0, 1); }

  int wrong() { return wrong; }

  void end() {
    System.out.println(asked + " answers looked at, " + wrong + " of them wrong");
    if (wrong != 0) System.exit(1);
  }
}
