import java.lang.reflect.InvocationTargetException;
import java.lang.reflect.Method;
import java.util.Arrays;

/**
 * Every call with each argument below, at and above its ends, in all combinations: the refusal that is told is the
 * first that fits in the order of the promise, it is counted once, and nothing else changes; what fits none is taken.
 */
public final class EdgesOfRefusalsTest {
  /**
   * A promise, its call, then "least..greatest" for each argument of an object that has three farms and three farmers,
   * then the refusals in their order, each with the arguments (by place) that it looks at.
   */
  private static final String[] CALLS = {
    "2 letter 0..255 : -4(0) -6(0)",
    "4 farm 0..2 0..4 : -1(0) -2(1)",
    "5 farmer 0..2 0..5 : -1(0) -2(1)",
    "6 sits 0..2 0..2 : -1(0,1)",
    "7 leaves 0..2 : -1(0)",
    "8 hearts 0..2 0..2 0..30 : -1(0,1) -4(2) -6(2)",
    "9 steps 0..5 : -4(0) -6(0)",
    "10 tires 0..2 0..20 : -1(0) -4(1) -6(1)",
    "11 turn 0..2 0..5 0..9 : -1(0) -2(1) -4(2) -6(2)",
    "12 years 1..60 : -4(0) -6(0)",
    "13 heartThen 0..2 0..2 0..60 : -1(0,1) -4(2) -6(2)",
    "14 farmerThen 0..2 0..60 0..1 : -1(0) -4(1) -6(1) -2(2)",
    "15 barnThen 0..60 : -4(0) -6(0)",
    "17 lost 0..1 : -2(0)",
    "18 crop -1..2 1..60 : -1(0) -4(1) -6(1)",
    "19 bestStep 1..30 0..1 : -4(0) -6(0) -2(1)",
    "20 send 1..30 : -4(0) -6(0)",
    "21 change 1..30 : -4(0) -6(0)",
    "22 next -1..2 : -1(0)",
    "23 feed 0..2 0..1 : -1(0) -2(1)",
    "26 free 0..2 : -2(0)",
    "29 two 0..2 0..2 1..30 : -1(0,1) -4(2) -6(2)",
    "30 frost 0..7 2..20 0..999 0..1 : -4(0,1,2) -6(0,1,2) -2(3)",
    "31 mean 0..1 : -2(0)",
    "32 whoSat 0..2 0..2 0..1 : -1(0,1) -2(2)",
    "33 row 0..99 : -4(0) -6(0)",
    "36 lots 1..20 -2147483648..2147483647 0..1 : -4(0) -6(0) -2(2)",
  };

  private final String name;
  private final int[] least;
  private final int[] most;
  private final String[] order;
  private final Method method;

  private EdgesOfRefusalsTest(String told) throws NoSuchMethodException {
    String[] parts = told.split(" : ");
    String[] words = parts[0].split(" ");
    name = words[1];
    least = new int[words.length - 2];
    most = new int[least.length];
    for (int i = 0; i < least.length; i++) {
      String[] ends = words[i + 2].split("\\.\\.");
      least[i] = Integer.parseInt(ends[0]);
      most[i] = Integer.parseInt(ends[1]);
    }
    order = parts[1].split(" ");
    Class<?>[] types = new Class<?>[least.length];
    Arrays.fill(types, int.class);
    method = RotationOfFarmers.class.getMethod(name, types);
  }

  public static void main(String[] args) throws ReflectiveOperationException {
    for (String told : CALLS) {
      new EdgesOfRefusalsTest(told).all(0, new int[0]);
    }
    Due.end("EdgesOfRefusalsTest");
  }

  /** Land with three farms and three farmers on them; no letters, no row. */
  private static RotationOfFarmers land() {
    return Due.landOf("f201510;f010102;f303030;pw3;pt4;pf5;a00;a12;a21;s2;");
  }

  private void all(int place, int[] ahead) throws ReflectiveOperationException {
    if (place == least.length) {
      one(ahead);
      return;
    }
    int[] values = {Integer.MIN_VALUE, least[place] - 1, least[place], most[place], most[place] + 1, Integer.MAX_VALUE};
    for (int v : values) {
      int[] next = Arrays.copyOf(ahead, place + 1);
      next[place] = v;
      all(place + 1, next);
    }
  }

  private void one(int[] arguments) throws ReflectiveOperationException {
    String what = name + Arrays.toString(arguments);
    RotationOfFarmers x = land();
    long[] state = Due.state(x);
    int[] refusals = Due.refusals(x);
    int due = refusal(arguments);
    long got = answer(x, arguments);
    if (due == 0) {
      Due.isTrue(what + " is taken, and not " + got, got >= 0 && got < Due.LONG_REFUSAL || got == Model.NONE);
    } else {
      boolean ofLongs = method.getReturnType() == long.class;
      Due.is(what, got, ofLongs ? Due.LONG_REFUSAL - due : due);
      refusals[-due]++;
      Due.sameState(what, x, state);
    }
    Due.isTrue(what + " counts as " + due, Arrays.equals(refusals, Due.refusals(x)));
  }

  private long answer(RotationOfFarmers x, int[] arguments) throws ReflectiveOperationException {
    Object[] all = new Object[arguments.length];
    for (int i = 0; i < all.length; i++) {
      all[i] = arguments[i];
    }
    try {
      return ((Number) method.invoke(x, all)).longValue();
    } catch (InvocationTargetException e) {
      Due.is(name + Arrays.toString(arguments) + " threw " + e.getCause(), 1, 0);
      return 0;
    }
  }

  private int refusal(int[] arguments) {
    for (String told : order) {
      int number = Integer.parseInt(told.substring(0, told.indexOf('(')));
      String[] places = told.substring(told.indexOf('(') + 1, told.length() - 1).split(",");
      for (String place : places) {
        int i = Integer.parseInt(place);
        boolean below = arguments[i] < least[i];
        boolean above = arguments[i] > most[i];
        if (below && number != -6 || above && number != -4) {
          return number;
        }
      }
      if (name.equals("two") && number == -1 && arguments[0] == arguments[1]) {
        return number;
      }
    }
    return 0;
  }
}
