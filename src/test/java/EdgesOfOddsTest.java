/** Boundary cases of promises 30 to 36: late frosts, the mean, the row and what is asked by it, hundreds by lot. */
public final class EdgesOfOddsTest {
  public static void main(String[] args) {
    Edges.run(EdgesOfOddsTest.class);
  }

  private static void frostIs(RotationOfFarmers x, int n, int t, int v, long above, long below) {
    String what = "frost in " + n + ", 1 in " + t + ", of " + v;
    Edges.taken(x, what + ", above", y -> y.frost(n, t, v, 0), above);
    Edges.taken(x, what + ", below", y -> y.frost(n, t, v, 1), below);
  }

  /** Six of roots at 18 each who stay: 108 in each of five years, nothing in the sixth, 108 in the seventh. */
  private static RotationOfFarmers sixOfRoots() {
    RotationOfFarmers x = Due.landOf("f303030;f303030;f303030;f303030;f303030;f303030;pr0;pr0;pr0;pr0;pr0;pr0;s0;");
    Due.isTrue("seats", Due.tell(x, "a00;a11;a22;a33;a44;a55;") == 6);
    return x;
  }

  @Edge(promise = 30, says = {
      "FROST, part 0 above, 1 below the line.",
      "FROST: in each of n YEARS (0 .. 7), by itself, with odds 1 in t (2 .. 20) nothing grows (all else goes"
          + " on): how likely v (0 .. 999) or more grows of all together in these: a fraction."})
  private static void p30_frost_0And7Years() {
    RotationOfFarmers x = sixOfRoots();
    frostIs(x, 0, 2, 0, 1, 1);
    frostIs(x, 0, 20, 0, 1, 1);
    frostIs(x, 0, 2, 1, 0, 1);
    frostIs(x, 0, 20, 999, 0, 1);
    frostIs(x, 1, 2, 108, 1, 2);
    frostIs(x, 7, 2, 648, 1, 64);
    frostIs(x, 7, 2, 1, 63, 64);
    frostIs(x, 7, 20, 648, 47045881, 64000000);
    frostIs(x, 7, 20, 1, 63999999, 64000000);
    Due.is("barn", x.count(4), 0);
    Due.is("year", x.count(2), 0);
  }

  @Edge(promise = 30, says = "with odds 1 in t (2 .. 20) nothing grows (all else goes on)")
  private static void p30_frost_odds2And20() {
    RotationOfFarmers x = Due.landOf("f000030;pr3;a00;s0;");
    frostIs(x, 1, 2, 3, 1, 2);
    frostIs(x, 1, 3, 3, 2, 3);
    frostIs(x, 1, 20, 3, 19, 20);
    frostIs(x, 3, 2, 4, 5, 8);
    frostIs(x, 3, 20, 10, 19 * 19 * 19, 8000);
    RotationOfFarmers fed = Due.landOf("f000000;f000000;pc0;pw0;a01;a10;s1;");
    fed.hearts(1, 1, 30);
    frostIs(fed, 2, 2, 1, 3, 4);
    frostIs(fed, 2, 2, 7, 1, 2);
    frostIs(fed, 2, 2, 8, 1, 4);
    frostIs(fed, 2, 2, 9, 0, 1);
  }

  @Edge(promise = 30, says = "how likely v (0 .. 999) or more grows of all together in these")
  private static void p30_frost_0And999Corn() {
    RotationOfFarmers x = sixOfRoots();
    frostIs(x, 7, 2, 0, 1, 1);
    frostIs(x, 7, 20, 0, 1, 1);
    frostIs(x, 1, 2, 107, 1, 2);
    frostIs(x, 1, 2, 108, 1, 2);
    frostIs(x, 1, 2, 109, 0, 1);
    frostIs(x, 7, 2, 649, 0, 1);
    frostIs(x, 7, 20, 999, 0, 1);
    frostIs(Edges.full(), 1, 2, 17, 1, 2);
    frostIs(Edges.full(), 1, 2, 18, 0, 1);
    frostIs(new RotationOfFarmers(), 7, 20, 0, 1, 1);
    frostIs(new RotationOfFarmers(), 7, 20, 1, 0, 1);
  }

  @Edge(promise = 30, says = "Fractions are told in least terms; 0 as 0 by 1.")
  private static void p30_frost_leastTerms() {
    RotationOfFarmers x = Due.landOf("f000030;pr3;a00;s0;");
    frostIs(x, 2, 2, 0, 1, 1);
    frostIs(x, 2, 2, 3, 3, 4);
    frostIs(x, 2, 4, 4, 9, 16);
    frostIs(x, 5, 2, 10, 1, 2);
    frostIs(x, 2, 2, 7, 0, 1);
  }

  @Edge(promise = 30, says = "how likely v (0 .. 999) or more grows of all")
  private static void p30_frost_barnFull() {
    RotationOfFarmers x = Edges.fullBarn();
    Due.tell(x, "a00;");
    frostIs(x, 1, 2, 3, 1, 2);
    frostIs(x, 1, 2, 4, 0, 1);
  }

  @Edge(promise = 30, says = {
      "Refused as told: -4 (n, v; t below 2);",
      "Of longs they are 4000000000000000000 less them (-1 as 4000000000000000001)."})
  private static void p30_frost_below() {
    Edges.refusedLong(Due.BELOW, "n -1", y -> y.frost(-1, 2, 0, 0));
    Edges.refusedLong(Due.BELOW, "n least", y -> y.frost(Edges.LEAST, 2, 0, 0));
    Edges.refusedLong(Due.BELOW, "t 1", y -> y.frost(0, 1, 0, 0));
    Edges.refusedLong(Due.BELOW, "t 0", y -> y.frost(7, 0, 0, 0));
    Edges.refusedLong(Due.BELOW, "t -2", y -> y.frost(7, -2, 0, 0));
    Edges.refusedLong(Due.BELOW, "t least", y -> y.frost(7, Edges.LEAST, 0, 0));
    Edges.refusedLong(Due.BELOW, "v -1", y -> y.frost(0, 2, -1, 0));
    Edges.refusedLong(Due.BELOW, "v least", y -> y.frost(0, 2, Edges.LEAST, 1));
    Due.is("told so", Edges.busy().frost(-1, 2, 0, 0), 4000000000000000004L);
  }

  @Edge(promise = 30, says = {"-6 (7; 20; 999);", "-2."})
  private static void p30_frost_roomAndOther() {
    Edges.refusedLong(Due.ROOM, "n 8", y -> y.frost(8, 2, 0, 0));
    Edges.refusedLong(Due.ROOM, "n most", y -> y.frost(Edges.MOST, 2, 0, 0));
    Edges.refusedLong(Due.ROOM, "t 21", y -> y.frost(7, 21, 0, 0));
    Edges.refusedLong(Due.ROOM, "t most", y -> y.frost(7, Edges.MOST, 0, 0));
    Edges.refusedLong(Due.ROOM, "v 1000", y -> y.frost(7, 20, 1000, 0));
    Edges.refusedLong(Due.ROOM, "v most", y -> y.frost(7, 20, Edges.MOST, 0));
    Edges.refusedLong(Due.OTHER, "part -1", y -> y.frost(0, 2, 0, -1));
    Edges.refusedLong(Due.OTHER, "part 2", y -> y.frost(7, 20, 999, 2));
    Edges.refusedLong(Due.OTHER, "part most", y -> y.frost(7, 20, 999, Edges.MOST));
    Due.is("room told so", Edges.busy().frost(8, 2, 0, 0), 4000000000000000006L);
    Due.is("other told so", Edges.busy().frost(0, 2, 0, 2), 4000000000000000002L);
  }

  @Edge(promise = 30, says = {"-4 (n, v; t below 2);", "-6 (7; 20; 999);", "-2."})
  private static void p30_frost_bothWrong() {
    Edges.refusedLong(Due.BELOW, "n 8, v -1: below is told", y -> y.frost(8, 2, -1, 0));
    Edges.refusedLong(Due.BELOW, "n 8, t 1: below is told", y -> y.frost(8, 1, 0, 0));
    Edges.refusedLong(Due.BELOW, "n -1, t 21: below is told", y -> y.frost(-1, 21, 0, 0));
    Edges.refusedLong(Due.BELOW, "t 1, v 1000: below is told", y -> y.frost(0, 1, 1000, 0));
    Edges.refusedLong(Due.BELOW, "v -1, part 2: below is told", y -> y.frost(0, 2, -1, 2));
    Edges.refusedLong(Due.ROOM, "v 1000, part 2: room is told", y -> y.frost(0, 2, 1000, 2));
    Edges.refusedLong(Due.ROOM, "t 21, part -1: room is told", y -> y.frost(0, 21, 0, -1));
  }

  private static void meanIs(String text, long above, long below) {
    RotationOfFarmers x = text.isEmpty() ? new RotationOfFarmers() : Due.landOf(text);
    Edges.taken(x, "mean of " + text + ", above", y -> y.mean(0), above);
    Edges.taken(x, "mean of " + text + ", below", y -> y.mean(1), below);
  }

  @Edge(promise = 31, says = {
      "MEAN.",
      "MEAN: of GREEN of FARMS: a fraction (0 by 1 of none).",
      "Fractions are told in least terms; 0 as 0 by 1."})
  private static void p31_mean() {
    meanIs("", 0, 1);
    meanIs("pw0;", 0, 1);
    meanIs("f000000;", 0, 1);
    meanIs("f000001;", 1, 1);
    meanIs("f303029;", 89, 1);
    meanIs("f000000;f000000;f000000;f000000;f000000;f000000;", 0, 1);
    meanIs("f000000;f000000;f000000;f000000;f000000;f000001;", 1, 6);
    meanIs("f000000;f000000;f000000;f000000;f000000;f000002;", 1, 3);
    meanIs("f000000;f000000;f000000;f000000;f000000;f000006;", 1, 1);
    meanIs("f303030;f303030;f303030;f303030;f303030;f303030;", 90, 1);
    meanIs("f303030;f303030;f303030;f303030;f303030;f303029;", 539, 6);
    meanIs("f303030;f303029;", 179, 2);
    Edges.taken(Edges.full(), "mean of six, above", y -> y.mean(0), 81);
    Edges.taken(Edges.full(), "mean of six, below", y -> y.mean(1), 2);
  }

  @Edge(promise = 31, says = {
      "Refused as told: -2.",
      "Of longs they are 4000000000000000000 less them (-1 as 4000000000000000001)."})
  private static void p31_mean_refused() {
    Edges.refusedLong(Due.OTHER, "part -1", y -> y.mean(-1));
    Edges.refusedLong(Due.OTHER, "part 2", y -> y.mean(2));
    Edges.refusedLong(Due.OTHER, "part least", y -> y.mean(Edges.LEAST));
    Edges.refusedLong(Due.OTHER, "part most", y -> y.mean(Edges.MOST));
    Due.is("told so, without farms", new RotationOfFarmers().mean(2), 4000000000000000002L);
  }

  private static RotationOfFarmers withRow(String text, int... row) {
    RotationOfFarmers x = Due.landOf(text);
    for (int v : row) {
      x.row(v);
    }
    return x;
  }

  private static int[] upTo(int step, int n) {
    int[] row = new int[n];
    for (int i = 0; i < n; i++) {
      row[i] = step * i;
    }
    return row;
  }

  private static void whoSatIs(RotationOfFarmers x, int kinds, int figures) {
    int had = x.count(6);
    Edges.taken(x, "kinds", y -> y.whoSat(0, 0, 0), kinds);
    Edges.taken(x, "figures", y -> y.whoSat(0, 0, 1), figures);
    Due.is("the row stays", x.count(6), had);
  }

  @Edge(promise = 32, says = {
      "WHO SAT by the ROW (it stays): KINDS (what 0, bits), FIGURES (1).",
      "WHO SAT: a ROW tells GREEN of a FARM behind 0, 1, .. YEARS: KINDS (bits) of a told FARMER by which all of"
          + " it is so; FIGURES (bits 0 .. 9)."})
  private static void p32_whoSat_emptyRowAndOne() {
    String text = "f201510;pf0;a00;s0;";
    whoSatIs(withRow(text), 63, 1023);
    whoSatIs(withRow(text, 45), 63, 1023);
    whoSatIs(withRow(text, 44), 0, 0);
    whoSatIs(withRow(text, 46), 0, 0);
    whoSatIs(withRow("f000000;pf0;", 0), 63, 1023);
    whoSatIs(withRow("f303030;pf0;", 90), 63, 1023);
    whoSatIs(withRow("f303030;pf0;", 99), 0, 0);
  }

  @Edge(promise = 32, says = "KINDS (bits) of a told FARMER by which all of it is so; FIGURES (bits 0 .. 9).")
  private static void p32_whoSat_figures0And9() {
    String text = "f101010;pf0;a00;s0;";
    whoSatIs(withRow(text, 30, 33), 16, 1 + 2 + 4);
    whoSatIs(withRow(text, 30, 36), 0, 8 + 16 + 32);
    whoSatIs(withRow(text, 30, 39), 0, 64 + 128 + 256);
    whoSatIs(withRow(text, 30, 42), 0, 512);
    whoSatIs(withRow(text, 30, 45), 0, 0);
    whoSatIs(withRow(text, 30, 28), 1 + 2, 0);
    whoSatIs(withRow(text, 30, 27), 4, 0);
    whoSatIs(withRow(text, 30, 32), 8, 0);
    whoSatIs(withRow(text, 30, 35), 32, 0);
    whoSatIs(withRow("f101010;pw9;a00;s0;", 30, 28), 1 + 2, 1023);
    whoSatIs(withRow("f101010;pw9;a00;s0;", 30, 42), 16, 0);
    whoSatIs(withRow("f101010;pw9;a00;s0;", 30, 44), 32, 0);
  }

  @Edge(promise = 32, says = {
      "a ROW tells GREEN of a FARM behind 0, 1, .. YEARS",
      "A ROW of numbers (0 .. 99; 16 at most)"})
  private static void p32_whoSat_fullRow() {
    whoSatIs(withRow("f000000;pf0;", upTo(3, 16)), 63, 1023);
    int[] lastWrong = upTo(3, 16);
    lastWrong[15]++;
    whoSatIs(withRow("f000000;pf0;", lastWrong), 0, 0);
    int[] firstWrong = upTo(3, 16);
    firstWrong[0]++;
    whoSatIs(withRow("f000000;pf0;", firstWrong), 0, 0);
    RotationOfFarmers late = Edges.inYear(999);
    Due.tell(late, "f000000;pf0;");
    late.row(0);
    late.row(3);
    whoSatIs(late, 63, 1023);
  }

  @Edge(promise = 32, says = "WHO SAT by the ROW (it stays): KINDS (what 0, bits), FIGURES (1).")
  private static void p32_whoSat_sixAndSix() {
    RotationOfFarmers x = Edges.full();
    Edges.taken(x, "by 0, 6, 12 ..", y -> y.whoSat(5, 5, 0), 0);
    x.clear();
    x.row(63);
    x.row(63 + 8);
    Edges.taken(x, "mr ames by 8 more", y -> y.whoSat(5, 5, 0), 32);
    Edges.taken(x, "his figures", y -> y.whoSat(5, 5, 1), 8 + 16 + 32);
    Edges.taken(x, "kinds of one who is elsewhere", y -> y.whoSat(5, 0, 0), 63);
    Edges.taken(x, "figures of one who is elsewhere", y -> y.whoSat(5, 0, 1), 1023);
  }

  @Edge(promise = 32, says = {"-1 either;", "-2."})
  private static void p32_whoSat_refused() {
    Edges.refused(Due.NOBODY, "farm -1", y -> y.whoSat(-1, 0, 0));
    Edges.refused(Due.NOBODY, "farm 3 of three", y -> y.whoSat(3, 0, 0));
    Edges.refused(Due.NOBODY, "farmer -1", y -> y.whoSat(0, -1, 0));
    Edges.refused(Due.NOBODY, "farmer 3 of three", y -> y.whoSat(0, 3, 0));
    Edges.refused(Due.NOBODY, "both: once", y -> y.whoSat(3, 3, 0));
    Edges.refused(Due.OTHER, "what -1", y -> y.whoSat(0, 0, -1));
    Edges.refused(Due.OTHER, "what 2", y -> y.whoSat(2, 2, 2));
    Edges.refused(Due.OTHER, "what most", y -> y.whoSat(0, 0, Edges.MOST));
    Edges.refused(Due.NOBODY, "farm 3, what 2: nobody is told", y -> y.whoSat(3, 0, 2));
    Edges.refused(Due.NOBODY, "farmer -1, what -1: nobody is told", y -> y.whoSat(0, -1, -1));
    Edges.refusedOf(Edges::empty, Due.NOBODY, "of none", y -> y.whoSat(0, 0, 0));
    Edges.refusedOf(Edges::full, Due.NOBODY, "farmer 6 of six", y -> y.whoSat(0, 6, 0));
    Edges.refusedOf(Edges::full, Due.NOBODY, "farm 6 of six", y -> y.whoSat(6, 0, 0));
  }

  @Edge(promise = 33, says = {
      "A number more of the ROW (0 .. 99): how many.",
      "A ROW of numbers (0 .. 99; 16 at most)"})
  private static void p33_row_0And99And16() {
    RotationOfFarmers x = new RotationOfFarmers();
    for (int i = 1; i <= 16; i++) {
      int v = i % 2 == 0 ? 99 : 0;
      Edges.taken(x, "number " + i, y -> y.row(v), i);
    }
    Due.is("how many", x.count(6), 16);
    Edges.refusedOf(Edges::full, Due.ROOM, "the 17th, 0", y -> y.row(0));
    Edges.refusedOf(Edges::full, Due.ROOM, "the 17th, 99", y -> y.row(99));
  }

  @Edge(promise = 33, says = {"-4;", "-6 (99; 16, too)."})
  private static void p33_row_refused() {
    Edges.refused(Due.BELOW, "-1", y -> y.row(-1));
    Edges.refused(Due.BELOW, "least", y -> y.row(Edges.LEAST));
    Edges.refused(Due.ROOM, "100", y -> y.row(100));
    Edges.refused(Due.ROOM, "most", y -> y.row(Edges.MOST));
    Edges.refusedOf(Edges::full, Due.BELOW, "the 17th, -1: below is told", y -> y.row(-1));
    Edges.refusedOf(Edges::full, Due.ROOM, "the 17th, 100: room, once", y -> y.row(100));
  }

  @Edge(promise = 34, says = {
      "JUDGED; -9 (whichever it answers, the ROW has none then).",
      "JUDGED: what grows of all in YEARS 1, 2, ..: the first that is not so; -9."})
  private static void p34_judge() {
    String text = "f303030;pr0;a00;s0;";
    int[][] rows = {{}, {18}, {17}, {19}, {18, 18, 18, 18, 18, 0, 18}, {18, 18, 18, 18, 18, 18}, {18, 0, 0}, {99}};
    int[] due = {Edges.NONE, Edges.NONE, 0, 0, Edges.NONE, 5, 1, 0};
    for (int i = 0; i < rows.length; i++) {
      RotationOfFarmers x = withRow(text, rows[i]);
      Edges.taken(x, "row " + i, RotationOfFarmers::judge, due[i]);
      Due.is("the row has none", x.count(6), 0);
      Edges.taken(x, "again, by none", RotationOfFarmers::judge, Edges.NONE);
      Due.is("barn", x.count(4), 0);
      Due.is("year", x.count(2), 0);
    }
  }

  @Edge(promise = 34, says = "what grows of all in YEARS 1, 2, ..: the first that is not so; -9.")
  private static void p34_judge_sixteen() {
    int[] zeros = new int[16];
    Edges.taken(withRow("f303030;", zeros), "nothing in sixteen", RotationOfFarmers::judge, Edges.NONE);
    zeros[15] = 1;
    Edges.taken(withRow("f303030;", zeros), "but in the last", RotationOfFarmers::judge, 15);
    zeros[0] = 1;
    Edges.taken(withRow("f303030;", zeros), "and in the first", RotationOfFarmers::judge, 0);
    RotationOfFarmers none = new RotationOfFarmers();
    none.row(0);
    Edges.taken(none, "nothing without farms", RotationOfFarmers::judge, Edges.NONE);
    none.row(1);
    Edges.taken(none, "something without farms", RotationOfFarmers::judge, 0);
    RotationOfFarmers six = Edges.full();
    six.clear();
    six.row(17);
    Edges.taken(six, "six and six", RotationOfFarmers::judge, Edges.NONE);
    six.row(16);
    Edges.taken(six, "one less", RotationOfFarmers::judge, 0);
  }

  @Edge(promise = 34, says = "what grows of all in YEARS 1, 2, ..")
  private static void p34_judge_barnFullAndYear999() {
    RotationOfFarmers x = Edges.fullBarn();
    Due.tell(x, "a00;");
    x.row(3);
    x.row(3);
    x.row(4);
    Edges.taken(x, "with a full barn", RotationOfFarmers::judge, Edges.NONE);
    RotationOfFarmers late = Edges.inYear(999);
    Due.tell(late, "f000000;pr0;a00;s0;");
    late.row(3);
    late.row(4);
    Edges.taken(late, "behind year 999", RotationOfFarmers::judge, 1);
  }

  @Edge(promise = 35, says = "The ROW has none then: how many it had.")
  private static void p35_clear_0And16() {
    RotationOfFarmers x = new RotationOfFarmers();
    Edges.taken(x, "of none", RotationOfFarmers::clear, 0);
    x.row(5);
    Edges.taken(x, "of one", RotationOfFarmers::clear, 1);
    Due.is("none", x.count(6), 0);
    RotationOfFarmers full = Edges.full();
    Edges.taken(full, "of sixteen", RotationOfFarmers::clear, 16);
    Edges.taken(full, "again", RotationOfFarmers::clear, 0);
    Edges.taken(full, "one anew", y -> y.row(0), 1);
    Edges.taken(full, "by it alone", y -> y.whoSat(0, 0, 0), 0);
    Due.is("letters stay", full.count(7), 96);
  }

  /** One farm that nobody tills: behind ten years each drawn heart is 10 more, 30 at most. */
  private static void greenOfOneDraws(int z, int first, int second, int third) {
    int green = Math.min(30, first + 10) + Math.min(30, second + 10) + Math.min(30, third + 10);
    Edges.taken(Due.landOf("f000000;"), "green from seed " + z, y -> y.lots(1, z, 1), green);
    Edges.taken(Due.landOf("f303030;"), "whatever was there, from seed " + z, y -> y.lots(1, z, 1), green);
  }

  @Edge(promise = 36, says =
      "A DRAW below m: z becomes z times 1664525 and 1013904223 (an int); (z without its sign's bit by 256, cut)"
          + " modulo m.")
  private static void p36_lots_seedsThatWrap() {
    greenOfOneDraws(0, 3, 17, 25);
    greenOfOneDraws(1, 26, 14, 24);
    greenOfOneDraws(-1, 11, 19, 19);
    greenOfOneDraws(Edges.MOST, 11, 19, 19);
    greenOfOneDraws(Edges.LEAST, 3, 17, 25);
    greenOfOneDraws(1103515245, 3, 15, 26);
    greenOfOneDraws(12, 0, 4, 2);
    greenOfOneDraws(20, 30, 0, 0);
  }

  @Edge(promise = 36, says = {
      "LOTS: what grows (what 0), GREEN (1).",
      "LOTS with a seed z: n hundreds (1 .. 20): each HEART, by FARMS, then SORTS, a DRAW below 31, then 10"
          + " YEARS: what grows of all together; GREEN of all in the end."})
  private static void p36_lots_1And20() {
    RotationOfFarmers x = Due.landOf("f303030;pr0;a00;s0;");
    Edges.taken(x, "corn of 1: 8 years' work from heart 3", y -> y.lots(1, 0, 0), 48);
    Edges.taken(x, "corn of 2: and from heart 20", y -> y.lots(2, 0, 0), 48 + 116);
    Edges.taken(x, "corn of 20", y -> y.lots(20, 7, 0), 2053);
    Edges.taken(x, "green of 1", y -> y.lots(1, 0, 1), 11 + 17 + 0);
    Edges.taken(x, "green of 2", y -> y.lots(2, 0, 1), 11 + 17 + 0 + 28 + 27 + 0);
    Edges.taken(Due.landOf("f000000;"), "green of 20, alone", y -> y.lots(20, 7, 1), 1455);
    Edges.heartsAre("as they were", x, 0, 30, 30, 30);
    Due.is("year", x.count(2), 0);
    Due.is("barn", x.count(4), 0);
  }

  @Edge(promise = 36, says = "each HEART, by FARMS, then SORTS, a DRAW below 31, then 10 YEARS:")
  private static void p36_lots_byFarmsThenSorts() {
    RotationOfFarmers x = Due.landOf("f000000;f000000;pr0;a00;s0;");
    Edges.taken(x, "on the first, from heart 3", y -> y.lots(1, 0, 0), 48);
    x.sits(0, 1);
    Edges.taken(x, "on the second, from heart 20", y -> y.lots(1, 0, 0), 116);
    x.turn(0, 1, 0);
    Edges.taken(x, "a tory there, from 27: 13, 12, 10, 9, 7, 6, 4, 3, 1, 0", y -> y.lots(1, 0, 0), 65);
    x.tires(0, 20);
    Edges.taken(x, "worn for three years: 13, 12, 10, 9, 7, then worn, 6", y -> y.lots(1, 0, 0), 57);
    Due.is("tired as he was", x.farmer(0, 2), 20);
  }

  @Edge(promise = 36, says = "n hundreds (1 .. 20)")
  private static void p36_lots_withoutFarmsOrFarmers() {
    Edges.taken(new RotationOfFarmers(), "corn of no farms", y -> y.lots(20, 7, 0), 0);
    Edges.taken(new RotationOfFarmers(), "green of no farms", y -> y.lots(20, 7, 1), 0);
    Edges.taken(Due.landOf("pr0;"), "a farmer alone", y -> y.lots(20, 7, 1), 0);
    Edges.taken(Due.landOf("f000000;"), "a farm alone", y -> y.lots(20, 7, 0), 0);
    RotationOfFarmers six = Due.landOf("f000000;".repeat(6));
    Edges.taken(six, "six farms alone, by 18 draws", y -> y.lots(1, 0, 1), 448);
  }

  @Edge(promise = 36, says = "what grows of all together; GREEN of all in the end.")
  private static void p36_lots_barnFullAndYear999() {
    RotationOfFarmers x = Edges.fullBarn();
    Due.tell(x, "a00;");
    Edges.taken(x, "with a full barn", y -> y.lots(1, 0, 0), 48);
    RotationOfFarmers late = Edges.inYear(999);
    Due.tell(late, "f000000;pr0;a00;s0;");
    Edges.taken(late, "behind year 999", y -> y.lots(2, 0, 0), 48 + 116);
  }

  @Edge(promise = 36, says = {"-4;", "-6 20;", "-2."})
  private static void p36_lots_refused() {
    Edges.refused(Due.BELOW, "0", y -> y.lots(0, 0, 0));
    Edges.refused(Due.BELOW, "-1", y -> y.lots(-1, 0, 0));
    Edges.refused(Due.BELOW, "least", y -> y.lots(Edges.LEAST, 0, 0));
    Edges.refused(Due.ROOM, "21", y -> y.lots(21, 0, 0));
    Edges.refused(Due.ROOM, "most", y -> y.lots(Edges.MOST, 0, 0));
    Edges.refused(Due.OTHER, "what -1", y -> y.lots(1, 0, -1));
    Edges.refused(Due.OTHER, "what 2", y -> y.lots(20, 0, 2));
    Edges.refused(Due.OTHER, "what most", y -> y.lots(20, Edges.LEAST, Edges.MOST));
    Edges.refused(Due.BELOW, "0, what 2: below is told", y -> y.lots(0, 0, 2));
    Edges.refused(Due.ROOM, "21, what -1: room is told", y -> y.lots(21, 0, -1));
    Edges.refusedOf(Edges::empty, Due.BELOW, "0 without farms", y -> y.lots(0, 0, 0));
  }
}
