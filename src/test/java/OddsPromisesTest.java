import java.math.BigInteger;

/** Promises 30 to 36: frost, the mean, the row and what is asked by it, and hundreds by lot. */
public final class OddsPromisesTest {
  private static final int LEAST = Integer.MIN_VALUE;
  private static final int MOST = Integer.MAX_VALUE;
  private static final int NONE = Model.NONE;

  public static void main(String[] args) {
    frost();
    frostRefused();
    mean();
    whoSatByKinds();
    whoSatByFigures();
    whoSatRefused();
    row();
    judge();
    clear();
    lotsOfGreen();
    lotsOfCorn();
    lotsRefused();
    Due.end("OddsPromisesTest");
  }

  /** Roots who stay: 3, 3, 4, 4, 5, then a rest, then 5. */
  private static RotationOfFarmers rootsWhoStay() {
    return Due.landOf("f000030;pr3;a00;s0;");
  }

  /** Promise 30. */
  private static void frost() {
    RotationOfFarmers x = rootsWhoStay();
    long[] state = Due.state(x);
    frostIs("something in two", x, 2, 2, 1, 3, 4);
    frostIs("as much as one year's", x, 2, 2, 3, 3, 4);
    frostIs("more than one year's", x, 2, 2, 4, 1, 4);
    frostIs("both years'", x, 2, 2, 6, 1, 4);
    frostIs("more than all", x, 2, 2, 7, 0, 1);
    frostIs("nothing or more", x, 2, 2, 0, 1, 1);
    frostIs("something, 1 in 3", x, 2, 3, 3, 8, 9);
    frostIs("all, 1 in 3", x, 2, 3, 6, 4, 9);
    frostIs("least terms, 1 in 4", x, 2, 4, 3, 15, 16);
    frostIs("least terms: 5 of 8", x, 3, 2, 4, 5, 8);
    frostIs("least terms: 27 of 64 and more", x, 3, 4, 4, 27 + 9 + 9 + 9 + 3, 64);
    frostIs("in no years", x, 0, 20, 0, 1, 1);
    frostIs("something in no years", x, 0, 2, 1, 0, 1);
    frostIs("the year of rest grows nothing", x, 7, 20, 1, 63999999, 64000000);
    frostIs("without all", new RotationOfFarmers(), 7, 20, 999, 0, 1);
    Due.sameState("behind frost", x, state);
  }

  private static void frostIs(String what, RotationOfFarmers x, int n, int t, int v, long above, long below) {
    Due.is("frost: " + what + ", above", x.frost(n, t, v, 0), above);
    Due.is("frost: " + what + ", below", x.frost(n, t, v, 1), below);
  }

  private static void frostRefused() {
    RotationOfFarmers x = rootsWhoStay();
    Due.refusedLong(x, Due.BELOW, "frost in -1", () -> x.frost(-1, 2, 0, 0));
    Due.refusedLong(x, Due.BELOW, "frost 1 in 1", () -> x.frost(0, 1, 0, 0));
    Due.refusedLong(x, Due.BELOW, "frost 1 in 0", () -> x.frost(0, 0, 0, 0));
    Due.refusedLong(x, Due.BELOW, "frost of -1", () -> x.frost(0, 2, -1, 0));
    Due.refusedLong(x, Due.BELOW, "frost of least", () -> x.frost(0, 2, LEAST, 0));
    Due.refusedLong(x, Due.ROOM, "frost in 8", () -> x.frost(8, 2, 0, 0));
    Due.refusedLong(x, Due.ROOM, "frost 1 in 21", () -> x.frost(7, 21, 0, 0));
    Due.refusedLong(x, Due.ROOM, "frost of 1000", () -> x.frost(7, 20, 1000, 0));
    RotationOfFarmers y = rootsWhoStay();
    Due.refusedLong(y, Due.BELOW, "frost in 8, 1 in 1", () -> y.frost(8, 1, 0, 0));
    Due.refusedLong(y, Due.BELOW, "frost in 8 of -1", () -> y.frost(8, 2, -1, 2));
    Due.refusedLong(y, Due.ROOM, "frost 1 in most and other", () -> y.frost(0, MOST, 0, 2));
    Due.refusedLong(y, Due.OTHER, "frost, part 2", () -> y.frost(7, 20, 999, 2));
    Due.refusedLong(y, Due.OTHER, "frost, part -1", () -> y.frost(0, 2, 0, -1));
    Due.is("a refusal of longs", y.frost(0, 2, 0, -1), 4000000000000000002L);
  }

  /** Promise 31. */
  private static void mean() {
    meanIs("without farms", new RotationOfFarmers(), 0, 1);
    meanIs("of nothing", Due.landOf("f000000;f000000;f000000;"), 0, 1);
    meanIs("of one", Due.landOf("f201510;"), 45, 1);
    meanIs("of 45 and 6", Due.landOf("f201510;f010203;"), 51, 2);
    meanIs("of 45 and 5", Due.landOf("f201510;f010202;"), 25, 1);
    meanIs("in least terms", Due.landOf("f010000;f000100;f000001;f000000;f000000;f000000;"), 1, 2);
    meanIs("of six full", Due.landOf("f303030;f303030;f303030;f303030;f303030;f303030;"), 90, 1);
    RotationOfFarmers x = Due.landOf("f201510;");
    Due.refusedLong(x, Due.OTHER, "mean, part 2", () -> x.mean(2));
    Due.refusedLong(x, Due.OTHER, "mean, part -1", () -> x.mean(-1));
    Due.is("a refusal of longs", x.mean(MOST), 4000000000000000002L);
  }

  private static void meanIs(String what, RotationOfFarmers x, long above, long below) {
    Due.is("mean " + what + ", above", x.mean(0), above);
    Due.is("mean " + what + ", below", x.mean(1), below);
  }

  /** Promise 32: by a year of figure 7 a green of 45 becomes 43, 43, 42, 47, 54, 56, kind by kind. */
  private static void whoSatByKinds() {
    RotationOfFarmers x = Due.landOf("f201510;f010203;pt7;pf9;a00;s0;");
    Due.is("by no row all kinds", x.whoSat(0, 0, 0), 63);
    int[][] due = {{43, 1 + 2}, {42, 4}, {47, 8}, {54, 16}, {56, 32}, {55, 0}};
    for (int[] d : due) {
      tellRow(x, 45, d[0]);
      long[] state = Due.state(x);
      Due.is("kinds by 45, " + d[0], x.whoSat(0, 0, 0), d[1]);
      Due.is("again: the row stays", x.whoSat(0, 0, 0), d[1]);
      Due.sameState("behind whoSat", x, state);
    }
    tellRow(x, 45);
    Due.is("kinds by what is now", x.whoSat(0, 0, 0), 63);
    tellRow(x, 44);
    Due.is("kinds by what is not", x.whoSat(0, 0, 0), 0);
    tellRow(x, 6, 9);
    Due.is("kinds of one who is not there", x.whoSat(1, 1, 0), 63);
    tellRow(x, 45, 43, 41);
    Due.is("kinds by three years", x.whoSat(0, 0, 0), 3);
    tellRow(x, 45, 43, 41, 40);
    Due.is("kinds by four years", x.whoSat(0, 0, 0), 0);
    x.tires(0, 8);
    tellRow(x, 45, 43, 43);
    Due.is("by who tires more and rests", x.whoSat(0, 0, 0), 1);
  }

  private static void whoSatByFigures() {
    RotationOfFarmers x = Due.landOf("f201510;pf0;a00;s0;");
    Due.is("by no row all figures", x.whoSat(0, 0, 1), 1023);
    int[][] due = {{48, 1 + 2 + 4}, {51, 8 + 16 + 32}, {54, 64 + 128 + 256}, {57, 512}, {43, 0}};
    for (int[] d : due) {
      tellRow(x, 45, d[0]);
      Due.is("figures by 45, " + d[0], x.whoSat(0, 0, 1), d[1]);
    }
    x.turn(0, 0, 5);
    Due.is("the figure of a whig may be any", x.whoSat(0, 0, 1), 1023);
    Due.is("kinds by 45, 43", x.whoSat(0, 0, 0), 3);
    Due.is("his own stays", x.farmer(0, 1), 5);
  }

  private static void whoSatRefused() {
    RotationOfFarmers x = Due.landOf("f201510;pf0;a00;s0;");
    Due.refused(x, Due.NOBODY, "whoSat, no such farm", () -> x.whoSat(1, 0, 0));
    Due.refused(x, Due.NOBODY, "whoSat, farm -1", () -> x.whoSat(-1, 0, 0));
    Due.refused(x, Due.NOBODY, "whoSat, no such farmer", () -> x.whoSat(0, 1, 0));
    Due.refused(x, Due.NOBODY, "whoSat, farmer -1 and other", () -> x.whoSat(0, -1, 2));
    Due.refused(x, Due.OTHER, "whoSat what 2", () -> x.whoSat(0, 0, 2));
    Due.refused(x, Due.OTHER, "whoSat what -1", () -> x.whoSat(0, 0, -1));
  }

  private static void tellRow(RotationOfFarmers x, int... numbers) {
    x.clear();
    for (int v : numbers) {
      x.row(v);
    }
  }

  /** Promise 33. */
  private static void row() {
    RotationOfFarmers x = new RotationOfFarmers();
    Due.is("row 0", x.row(0), 1);
    Due.is("row 99", x.row(99), 2);
    Due.refused(x, Due.BELOW, "row -1", () -> x.row(-1));
    Due.refused(x, Due.ROOM, "row 100", () -> x.row(100));
    for (int i = 3; i <= 16; i++) {
      Due.is("row " + i, x.row(i), i);
    }
    Due.is("sixteen", x.count(6), 16);
    Due.refused(x, Due.ROOM, "the seventeenth", () -> x.row(0));
    Due.refused(x, Due.BELOW, "the seventeenth below", () -> x.row(-1));
  }

  /** Promise 34. */
  private static void judge() {
    RotationOfFarmers x = rootsWhoStay();
    int[] grows = {3, 3, 4, 4, 5, 0, 5, 6, 6, 0, 7, 7, 0, 8, 8, 9};
    Due.is("by no row", x.judge(), NONE);
    tellRow(x, grows);
    long[] state = Due.state(x);
    state[6] = 0;
    Due.is("sixteen years as they grow", x.judge(), NONE);
    Due.sameState("behind judge", x, state);
    for (int wrong = 0; wrong < grows.length; wrong++) {
      int[] other = grows.clone();
      other[wrong]++;
      other[grows.length - 1]++;
      tellRow(x, other);
      Due.is("the first that is not so", x.judge(), wrong);
      Due.is("the row has none", x.count(6), 0);
    }
    RotationOfFarmers two = Due.landOf("f200000;f300000;pw0;pw0;a00;a11;s0;");
    tellRow(two, 25, 21);
    Due.is("of all", two.judge(), NONE);
    tellRow(two, 10);
    Due.is("of one", two.judge(), 0);
  }

  /** Promise 35. */
  private static void clear() {
    RotationOfFarmers x = new RotationOfFarmers();
    Due.is("clear of none", x.clear(), 0);
    tellRow(x, 3, 4, 5);
    Due.is("clear of three", x.clear(), 3);
    Due.is("the row has none", x.count(6), 0);
    Due.is("row again", x.row(7), 1);
    Due.is("clear of one", x.clear(), 1);
  }

  private static BigInteger seed;

  private static int draw() {
    BigInteger word = BigInteger.ONE.shiftLeft(32);
    seed = seed.multiply(BigInteger.valueOf(1664525)).add(BigInteger.valueOf(1013904223)).mod(word);
    return seed.mod(BigInteger.ONE.shiftLeft(31)).divide(BigInteger.valueOf(256)).intValue() % 31;
  }

  /** Promise 36: farms without farmers have each heart 10 more, 30 at most. */
  private static void lotsOfGreen() {
    RotationOfFarmers x = Due.landOf("f201510;f010203;");
    long[] state = Due.state(x);
    int[] seeds = {0, 1, -1, 7, 1103515245, LEAST, MOST};
    for (int z : seeds) {
      seed = BigInteger.valueOf(z);
      int green = 0;
      for (int n = 1; n <= 20; n++) {
        for (int heart = 0; heart < 6; heart++) {
          green += Math.min(30, draw() + 10);
        }
        Due.is("green of " + n + " hundreds from " + z, x.lots(n, z, 1), green);
        Due.is("nothing grows in " + n, x.lots(n, z, 0), 0);
      }
    }
    Due.sameState("behind lots", x, state);
    Due.is("without farms", new RotationOfFarmers().lots(20, 5, 1), 0);
  }

  /** A whig who stays works in years 1 to 5, 7 to 9 of ten; a fallow's farm is drawn ahead of his. */
  private static void lotsOfCorn() {
    RotationOfFarmers x = Due.landOf("f000000;f000000;pw0;pf0;a01;a10;s0;y03;h1005;");
    x.tires(0, 0);
    boolean[] works = {true, true, true, true, true, false, true, true, true, false};
    int[] seeds = {3, -77};
    for (int z : seeds) {
      seed = BigInteger.valueOf(z);
      int corn = 0;
      for (int n = 1; n <= 20; n++) {
        int heart = 0;
        for (int i = 0; i < 6; i++) {
          int drawn = draw();
          heart = i == 3 ? drawn : heart;
        }
        for (boolean working : works) {
          corn += working ? heart / 2 : 0;
          heart = working ? Math.max(0, heart - 3) : heart;
        }
        Due.is("corn of " + n + " hundreds from " + z, x.lots(n, z, 0), corn);
      }
    }
  }

  private static void lotsRefused() {
    RotationOfFarmers x = Due.landOf("f201510;pf0;a00;s0;");
    Due.refused(x, Due.BELOW, "lots 0", () -> x.lots(0, 0, 0));
    Due.refused(x, Due.BELOW, "lots -1 and other", () -> x.lots(-1, 0, 2));
    Due.refused(x, Due.ROOM, "lots 21", () -> x.lots(21, 0, 0));
    Due.refused(x, Due.ROOM, "lots 21 and other", () -> x.lots(21, 0, -1));
    Due.refused(x, Due.OTHER, "lots what 2", () -> x.lots(1, 0, 2));
    Due.refused(x, Due.OTHER, "lots what -1", () -> x.lots(20, 0, -1));
  }
}
