import java.util.function.IntSupplier;
import java.util.function.LongSupplier;

/** Counts the answers that are due and prints the others. */
final class Due {
  static final int NOBODY = -1;
  static final int OTHER = -2;
  static final int STATE = -3;
  static final int BELOW = -4;
  static final int ROOM = -6;
  static final long LONG_REFUSAL = 4000000000000000000L;
  private static final int MOST_PRINTED = 40;

  private static int passed;
  private static int failed;

  private Due() {
  }

  static void is(String what, long got, long due) {
    if (got == due) {
      passed++;
      return;
    }
    failed++;
    if (failed <= MOST_PRINTED) {
      System.out.println(what + " answered " + got + ", due is " + due);
    }
  }

  static void isTrue(String what, boolean got) {
    is(what, got ? 1 : 0, 1);
  }

  /** A refusal answers its number, counts once under that number, and changes nothing else. */
  static void refused(RotationOfFarmers x, int number, String what, IntSupplier call) {
    refusedOnce(x, number, number, what, call::getAsInt);
  }

  static void refusedLong(RotationOfFarmers x, int number, String what, LongSupplier call) {
    refusedOnce(x, number, LONG_REFUSAL - number, what, call);
  }

  private static void refusedOnce(RotationOfFarmers x, int number, long due, String what, LongSupplier call) {
    long[] before = state(x);
    int[] refusals = refusals(x);
    is(what, call.getAsLong(), due);
    refusals[-number]++;
    sameRefusals(what, x, refusals);
    sameState(what, x, before);
  }

  private static void sameRefusals(String what, RotationOfFarmers x, int[] due) {
    int[] got = refusals(x);
    for (int i = 1; i < due.length; i++) {
      is(what + ": refusals " + -i, got[i], due[i]);
    }
  }

  static void sameState(String what, RotationOfFarmers x, long[] due) {
    long[] got = state(x);
    is(what + ": size of the state", got.length, due.length);
    for (int i = 0; i < Math.min(got.length, due.length); i++) {
      is(what + ": state " + i, got[i], due[i]);
    }
  }

  static int[] refusals(RotationOfFarmers x) {
    int[] numbers = new int[7];
    for (int i = 1; i <= 6; i++) {
      numbers[i] = x.count(10 + i);
    }
    return numbers;
  }

  /** All that can be asked without a refusal, in one row. */
  static long[] state(RotationOfFarmers x) {
    int farms = x.count(0);
    int farmers = x.count(1);
    long[] all = new long[8 + 5 * farms + 6 * farmers];
    int k = 0;
    for (int what = 0; what < 8; what++) {
      all[k++] = x.count(what);
    }
    for (int farm = 0; farm < farms; farm++) {
      for (int what = 0; what < 5; what++) {
        all[k++] = x.farm(farm, what);
      }
    }
    for (int farmer = 0; farmer < farmers; farmer++) {
      for (int what = 0; what < 6; what++) {
        all[k++] = x.farmer(farmer, what);
      }
    }
    return all;
  }

  /** Tells a text letter by letter and makes it land. */
  static int tell(RotationOfFarmers x, String text) {
    for (int i = 0; i < text.length(); i++) {
      x.letter(text.charAt(i));
    }
    return x.land();
  }

  static RotationOfFarmers landOf(String text) {
    RotationOfFarmers x = new RotationOfFarmers();
    isTrue("land of " + text, tell(x, text) > 0);
    return x;
  }

  static int failed() {
    return failed;
  }

  /** Prints the count of checks; the exit code is 1 if one failed. */
  static void end(String name) {
    System.out.println(name + ": " + passed + " as due, " + failed + " not");
    if (failed > 0) {
      System.exit(1);
    }
  }
}
