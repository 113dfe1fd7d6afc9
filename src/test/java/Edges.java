import java.lang.reflect.InvocationTargetException;
import java.lang.reflect.Method;
import java.util.ArrayList;
import java.util.Arrays;
import java.util.Comparator;
import java.util.List;
import java.util.function.Supplier;

/** Runs the tests of boundary cases, and what they have in common. */
final class Edges {
  static final int LEAST = Integer.MIN_VALUE;
  static final int MOST = Integer.MAX_VALUE;
  static final int NONE = Model.NONE;
  private static final int MOST_CALLS = 512;

  /** One call of the face; what it answers is a long as well as an int. */
  interface Call {
    long on(RotationOfFarmers x);
  }

  private Edges() {
  }

  /** Runs each test of a class by its name; a failing one is told with the sentence that it is about. */
  static void run(Class<?> tests) {
    List<Method> all = of(tests);
    for (Method test : all) {
      int before = Due.failed();
      runOne(test);
      if (Due.failed() > before) {
        Edge edge = test.getAnnotation(Edge.class);
        System.out.println("  in " + test.getName() + ", promise " + edge.promise() + ": "
            + String.join(" .. ", edge.says()));
      }
    }
    Due.isTrue("there are tests in " + tests.getName(), !all.isEmpty());
    Due.end(tests.getName() + ", " + all.size() + " edges");
  }

  static List<Method> of(Class<?> tests) {
    List<Method> all = new ArrayList<>();
    for (Method m : tests.getDeclaredMethods()) {
      if (m.isAnnotationPresent(Edge.class)) {
        all.add(m);
      }
    }
    all.sort(Comparator.comparing(Method::getName));
    return all;
  }

  private static void runOne(Method test) {
    try {
      test.setAccessible(true);
      test.invoke(null);
    } catch (InvocationTargetException e) {
      Due.is(test.getName() + " threw " + e.getCause(), 1, 0);
    } catch (ReflectiveOperationException e) {
      throw new IllegalStateException(test.getName(), e);
    }
  }

  static RotationOfFarmers empty() {
    return new RotationOfFarmers();
  }

  /**
   * Three farms (0 and 2 tilled, 1 free), three farmers (2 is idle), an image of another year, letters that wait and
   * would come, and a row: something of everything that a refused call might touch.
   */
  static RotationOfFarmers busy() {
    RotationOfFarmers x = Due.landOf("f201510;f010102;f303030;pw3;pt4;pf5;a00;a12;");
    x.image();
    Due.isTrue("more land", Due.tell(x, "y03;h1005;s0;") == 3);
    x.letter('s');
    x.letter('4');
    x.letter(';');
    x.row(x.farm(0, 3));
    x.row(x.heartThen(0, 0, 1) + x.heartThen(0, 1, 1) + x.heartThen(0, 2, 1));
    return x;
  }

  /** Six farms, six farmers on them, 96 letters that come, 16 in the row. */
  static RotationOfFarmers full() {
    RotationOfFarmers x = Due.landOf("f050607;f080910;f111213;f141516;f171819;f202122;pw0;pt1;pr2;pc3;pf4;pm5;");
    Due.isTrue("seats", Due.tell(x, "a00;a11;a22;a33;a44;a55;") == 6);
    x.image();
    for (int i = 0; i < 32; i++) {
      x.letter('s');
      x.letter('0' + i % 6);
      x.letter(';');
    }
    for (int i = 0; i < 16; i++) {
      x.row(6 * i);
    }
    return x;
  }

  static void refused(int number, String what, Call call) {
    refusedOf(Edges::busy, number, what, call);
  }

  /**
   * The call answers its number and is counted once under it; beside a twin that was not called nothing else differs,
   * neither what can be asked nor what comes of the letters, the row and the image.
   */
  static void refusedOf(Supplier<RotationOfFarmers> maker, int number, String what, Call call) {
    refusedBy(maker, number, number, what, call);
  }

  static void refusedLong(int number, String what, Call call) {
    refusedBy(Edges::busy, number, Due.LONG_REFUSAL - number, what, call);
  }

  private static void refusedBy(Supplier<RotationOfFarmers> maker, int number, long due, String what, Call call) {
    RotationOfFarmers x = maker.get();
    int[] refusals = Due.refusals(x);
    Due.is(what, call.on(x), due);
    refusals[-number]++;
    Due.isTrue(what + " is counted once, under " + number, Arrays.equals(refusals, Due.refusals(x)));
    Due.isTrue(what + " changes nothing", everything(x).equals(everything(maker.get())));
  }

  /** A call that is taken answers what is due and counts as no refusal. */
  static void taken(RotationOfFarmers x, String what, Call call, long due) {
    int[] refusals = Due.refusals(x);
    Due.is(what, call.on(x), due);
    Due.isTrue(what + " is no refusal", Arrays.equals(refusals, Due.refusals(x)));
  }

  /** Asks what can be asked, then uses up the row, the letters and the image. */
  static List<Long> everything(RotationOfFarmers x) {
    List<Long> all = new ArrayList<>();
    addState(all, x);
    for (int farmer = 0; farmer < x.count(1) && x.count(0) > 0; farmer++) {
      all.add((long) x.whoSat(0, farmer, 0));
      all.add((long) x.whoSat(0, farmer, 1));
    }
    all.add((long) x.barnThen(20));
    all.add((long) x.lots(2, 11, 0));
    all.add((long) x.lots(2, 11, 1));
    all.add((long) x.judge());
    all.add((long) x.land());
    addState(all, x);
    all.add((long) x.on());
    addState(all, x);
    return all;
  }

  private static void addState(List<Long> all, RotationOfFarmers x) {
    for (long one : Due.state(x)) {
      all.add(one);
    }
  }

  static void heartsAre(String what, RotationOfFarmers x, int farm, int first, int second, int third) {
    Due.is(what + ", sort 0", x.farm(farm, 0), first);
    Due.is(what + ", sort 1", x.farm(farm, 1), second);
    Due.is(what + ", sort 2", x.farm(farm, 2), third);
  }

  /** An object in a told year, without farms. */
  static RotationOfFarmers inYear(int year) {
    RotationOfFarmers x = new RotationOfFarmers();
    int left = year;
    for (int i = 0; i < MOST_CALLS && left > 0; i++) {
      int n = Math.min(60, left);
      x.years(n);
      left -= n;
    }
    Due.is("year", x.count(2), year);
    return x;
  }

  /** The barn has 9936; three farmers of roots grow 18 each next year, a fourth 3 and half of the told heart. */
  static RotationOfFarmers nearlyFullBarn(int heart) {
    RotationOfFarmers x = Due.landOf("f303030;f303030;f303030;f303030;f303030;f303030;pr0;pr0;pr0;pr0;pr0;pr0;s0;");
    Due.tell(x, "a00;a11;a22;a33;a44;a55;y60;y60;");
    Due.is("120 years", x.count(4), 9396);
    freshen(x);
    Due.is("five years more", x.years(5), 9936);
    freshen(x);
    x.leaves(4);
    x.leaves(5);
    x.hearts(3, 0, heart);
    return x;
  }

  private static void freshen(RotationOfFarmers x) {
    for (int f = 0; f < x.count(1); f++) {
      x.tires(f, 0);
    }
  }

  /** The barn has 9999; six farms of 0 and six rested farmers of roots at none, who stay where they are put. */
  static RotationOfFarmers fullBarn() {
    RotationOfFarmers x = nearlyFullBarn(30);
    x.years(1);
    freshen(x);
    for (int i = 0; i < 6; i++) {
      if (x.farmer(i, 3) != NONE) {
        x.leaves(i);
      }
      for (int sort = 0; sort < 3; sort++) {
        x.hearts(i, sort, 0);
      }
    }
    Due.is("barn", x.count(4), 9999);
    return x;
  }
}
