import java.lang.reflect.InvocationTargetException;
import java.lang.reflect.Method;
import java.lang.reflect.Modifier;
import java.util.ArrayList;
import java.util.List;

/**
 * What the tests of single sentences share. Each method without arguments of a class below this one is the test of one
 * sentence of the document. Most sentences name a boundary: the last number taken, the first refused, what is empty,
 * full, or cut down.
 */
abstract class Boundary {
  static final int LEAST = Integer.MIN_VALUE, GREATEST = Integer.MAX_VALUE;
  static final int BAD = -1, NOT = -2, NONE = -4, NULL = -11, CAST = -12, INDEX = -13, SIZE = -14;
  static final long TOLD_BAD = -100001L;
  static final long HEIGHT_BAD = -1000000000000001L, HEIGHT_NOT = -1000000000000002L, HEIGHT_NONE = -1000000000000004L;

  interface Making { void of(StandingArch arch); }

  interface Call { long on(StandingArch arch); }

  private final Due due = new Due();
  private String sentence;
  private int asked;

  final void runAll() throws IllegalAccessException {
    int tests = 0;
    for (Method test : getClass().getDeclaredMethods()) {
      if (test.isSynthetic() || Modifier.isStatic(test.getModifiers()) || test.getParameterCount() > 0) continue;
      tests++;
      runOne(test);
    }
    System.out.println(tests + " sentences");
    due.isTrue("there are tests", tests > 0);
    due.end();
  }

  private void runOne(Method test) throws IllegalAccessException {
    sentence = null;
    asked = 0;
    test.setAccessible(true);
    try {
      test.invoke(this);
    } catch (InvocationTargetException thrown) {
      due.isTrue(test.getName() + ": nothing is thrown, but " + thrown.getCause(), false);
    }
    due.isTrue(test.getName() + " names its sentence and asks", sentence != null && asked > 0);
  }

  /** The sentence that the test is for, in the document's words. */
  final void says(String words) { sentence = words; }

  final void is(String call, long got, long want) {
    asked++;
    due.is("\"" + sentence + "\": " + call, got, want);
  }

  final void fraction(String what, long above, long below, long wantAbove, long wantBelow) {
    is(what + ", above", above, wantAbove);
    is(what + ", below", below, wantBelow);
  }

  /** The joints' x, l, u, w as they are told, one behind the other, and that there are no more joints. */
  final void joints(String what, StandingArch arch, int... want) {
    for (int t = 0; t < want.length; t++) is(what + ", told(" + t / 4 + ", " + t % 4 + ")", arch.told(t / 4, t % 4), want[t]);
    is(what + ", no joint more", arch.told(want.length / 4, 0), TOLD_BAD);
  }

  /** The call's answer, and that all is as with a twin that was made likewise and never had the call. */
  final void changesNothing(String what, Making making, Call call, long want) {
    StandingArch one = new StandingArch(), twin = new StandingArch();
    making.of(one);
    making.of(twin);
    is(what, call.on(one), want);
    List<String> got = allOf(one), wanted = allOf(twin);
    for (int t = 0; t < Math.max(got.size(), wanted.size()); t++) {
      String a = t < got.size() ? got.get(t) : "nothing", b = t < wanted.size() ? wanted.get(t) : "nothing";
      is("behind " + what + ": " + a + " (a twin without it: " + b + ")", a.equals(b) ? 1 : 0, 1);
    }
  }

  /** All that can be asked of an object; its SHEETS are read and dropped at last. */
  private static List<String> allOf(StandingArch arch) {
    List<String> all = new ArrayList<>();
    for (int i = 0; i <= 6; i++) tell(all, "joint " + i, arch, i, 4);
    all.add("stands " + arch.stands() + " falls " + arch.falls() + " harms " + arch.harms(1) + " " + arch.harms(10));
    for (int which = 0; which < 2; which++) all.add("thrust " + which + ": " + arch.thrust(which, 0) + " by " + arch.thrust(which, 1));
    for (int i = 0; i <= 6; i++) all.add("height " + i + ": " + arch.height(i, 0) + " by " + arch.height(i, 1));
    for (int i = -1; i <= 3; i++) all.add("bar " + i + ": " + arch.bar(i));
    all.add("factor " + arch.factor(0) + " by " + arch.factor(1));
    for (int s = 0; s < 4; s++) {
      for (int lane = 0; lane < 3; lane++) {
        int read = arch.read(s, lane, 0);
        all.add("read " + s + " " + lane + ": " + read);
        for (int i = 0; read == 1 && i <= 6; i++) tell(all, "sheet " + s + " joint " + i, arch, i, 3);
      }
      all.add("drop " + s + ": " + arch.drop(s));
    }
    return all;
  }

  private static void tell(List<String> all, String name, StandingArch arch, int i, int lastWhat) {
    StringBuilder line = new StringBuilder(name).append(':');
    for (int what = 0; what <= lastWhat; what++) line.append(' ').append(arch.told(i, what));
    all.add(line.toString());
  }
}
