/** Boundary cases of promises 4 to 12: what is asked of farms and farmers, what is changed, the years that go by. */
public final class EdgesOfLandTest {
  private static final int WHIG = 0;
  private static final int TORY = 1;
  private static final int ROOTS = 2;
  private static final int CLOVER = 3;
  private static final int FALLOW = 4;
  private static final int MR_AMES = 5;

  public static void main(String[] args) {
    Edges.run(EdgesOfLandTest.class);
  }

  /** One farm with told hearts, and one of a kind and figure who sits there. */
  private static RotationOfFarmers one(int kind, int figure, int first, int second, int third) {
    RotationOfFarmers x = Due.landOf("f000000;p" + "wtrcfm".charAt(kind) + figure + ";a00;");
    x.hearts(0, 0, first);
    x.hearts(0, 1, second);
    x.hearts(0, 2, third);
    return x;
  }

  /** What he grows now is what comes into the barn, also when nothing does. */
  private static void grows(int kind, int first, int second, int third, int due) {
    RotationOfFarmers x = one(kind, 5, first, second, third);
    String what = "kind " + kind + " by " + first + ", " + second + ", " + third;
    Edges.taken(x, what + " grows now", y -> y.farmer(0, 4), due);
    Edges.taken(x, what + " grows in a year", y -> y.years(1), due);
  }

  private static void gives(int kind, int figure, int[] from, int[] due) {
    RotationOfFarmers x = one(kind, figure, from[0], from[1], from[2]);
    x.years(1);
    Edges.heartsAre("behind a year of kind " + kind + ", figure " + figure + ", from " + from[0] + ", " + from[1]
        + ", " + from[2], x, 0, due[0], due[1], due[2]);
  }

  private static int[] of(int first, int second, int third) {
    return new int[] {first, second, third};
  }

  private static int tiredBehindAYear(int kind, int tired) {
    RotationOfFarmers x = one(kind, 0, 20, 20, 20);
    x.tires(0, tired);
    x.years(1);
    return x.farmer(0, 2);
  }

  @Edge(promise = 4, says = {
      "Of a FARM: 0, 1, 2 a HEART, 3 GREEN, 4 the FARMER there (-9).",
      "GREEN of a FARM: its HEARTS together;"})
  private static void p04_farm_leastAndGreatest() {
    RotationOfFarmers x = Due.landOf("f000000;f303030;f010203;pw0;pw0;a02;a11;");
    Edges.heartsAre("least", x, 0, 0, 0, 0);
    Edges.heartsAre("greatest", x, 1, 30, 30, 30);
    Edges.heartsAre("each its own", x, 2, 1, 2, 3);
    Edges.taken(x, "green of nothing", y -> y.farm(0, 3), 0);
    Edges.taken(x, "green of all", y -> y.farm(1, 3), 90);
    Edges.taken(x, "nobody there", y -> y.farm(0, 4), Edges.NONE);
    Edges.taken(x, "the first there", y -> y.farm(2, 4), 0);
    Edges.taken(x, "the last there", y -> y.farm(1, 4), 1);
  }

  @Edge(promise = 4, says = {"-1;", "-1 NOBODY: no such FARM, FARMER, SORT, one twice."})
  private static void p04_farm_noSuchFarm() {
    Edges.refused(Due.NOBODY, "farm -1", y -> y.farm(-1, 0));
    Edges.refused(Due.NOBODY, "farm 3 of three", y -> y.farm(3, 0));
    Edges.refused(Due.NOBODY, "farm -9", y -> y.farm(Edges.NONE, 4));
    Edges.refused(Due.NOBODY, "farm least", y -> y.farm(Edges.LEAST, 0));
    Edges.refused(Due.NOBODY, "farm most", y -> y.farm(Edges.MOST, 0));
    Edges.refusedOf(Edges::empty, Due.NOBODY, "farm 0 of none", y -> y.farm(0, 0));
    Edges.refusedOf(Edges::full, Due.NOBODY, "farm 6 of six", y -> y.farm(6, 0));
    Edges.taken(Edges.full(), "farm 5 of six", y -> y.farm(5, 2), 22);
  }

  @Edge(promise = 4, says = {"-2.", "-2 OTHER: what, KIND."})
  private static void p04_farm_what() {
    Edges.refused(Due.OTHER, "what -1", y -> y.farm(0, -1));
    Edges.refused(Due.OTHER, "what 5", y -> y.farm(0, 5));
    Edges.refused(Due.OTHER, "what least", y -> y.farm(0, Edges.LEAST));
    Edges.refused(Due.OTHER, "what most", y -> y.farm(0, Edges.MOST));
  }

  @Edge(promise = 4, says = {
      "-1;",
      "-2.",
      "REFUSALS (the call answers the number, the first that fits in the order in which it tells them; nothing"
          + " changes but how many there were):"})
  private static void p04_farm_bothWrong() {
    Edges.refused(Due.NOBODY, "farm 3, what 5: nobody is told", y -> y.farm(3, 5));
    Edges.refused(Due.NOBODY, "farm -1, what -1: nobody is told", y -> y.farm(-1, -1));
  }

  @Edge(promise = 5, says = "Of a FARMER: 0 KIND (0 w, 1 t, 2 r, 3 c, 4 f, 5 m), 1 FIGURE, 2 TIRED,")
  private static void p05_farmer_kindFigureTired() {
    RotationOfFarmers x = Due.landOf("pw0;pt1;pr4;pc5;pf8;pm9;");
    int[] figures = {0, 1, 4, 5, 8, 9};
    for (int f = 0; f < 6; f++) {
      int farmer = f;
      Edges.taken(x, "kind of " + f, y -> y.farmer(farmer, 0), f);
      Edges.taken(x, "figure of " + f, y -> y.farmer(farmer, 1), figures[f]);
      Edges.taken(x, "tired at first", y -> y.farmer(farmer, 2), 0);
      x.tires(f, 20);
      Edges.taken(x, "tired 20", y -> y.farmer(farmer, 2), 20);
    }
  }

  @Edge(promise = 5, says = "3 where he is (-9), 4 what he GROWS now (0 AT none), 5 TIRES.")
  private static void p05_farmer_whereGrowsTires() {
    int[] grows = {15, 15, 18, 7, 0, 0};
    int[] tires = {2, 1, 2, 1, 3, 4};
    for (int f = 0; f < 6; f++) {
      RotationOfFarmers x = Due.landOf("f303030;f303030;pw0;pt0;pr0;pc0;pf0;pm0;a00;");
      int farmer = f;
      x.sits(f, 1);
      Edges.taken(x, "where " + f + " is", y -> y.farmer(farmer, 3), 1);
      Edges.taken(x, "what " + f + " grows", y -> y.farmer(farmer, 4), grows[f]);
      Edges.taken(x, "tires " + f, y -> y.farmer(farmer, 5), tires[f]);
      x.leaves(f);
      Edges.taken(x, "at none", y -> y.farmer(farmer, 3), Edges.NONE);
      Edges.taken(x, "grows at none", y -> y.farmer(farmer, 4), 0);
      Edges.taken(x, "tires at none", y -> y.farmer(farmer, 5), tires[f]);
    }
  }

  @Edge(promise = 5, says = {"4 what he GROWS now (0 AT none)", "Who is TIRED 10 or more GROWS nothing"})
  private static void p05_farmer_growsNowTired9And10() {
    for (int kind = 0; kind < 6; kind++) {
      int[] grows = {15, 15, 18, 7, 0, 0};
      RotationOfFarmers x = one(kind, 9, 30, 30, 30);
      x.tires(0, 9);
      Edges.taken(x, "tired 9, kind " + kind, y -> y.farmer(0, 4), grows[kind]);
      x.tires(0, 10);
      Edges.taken(x, "tired 10, kind " + kind, y -> y.farmer(0, 4), 0);
      x.tires(0, 20);
      Edges.taken(x, "tired 20, kind " + kind, y -> y.farmer(0, 4), 0);
    }
  }

  @Edge(promise = 5, says = "-1;")
  private static void p05_farmer_noSuchFarmer() {
    Edges.refused(Due.NOBODY, "farmer -1", y -> y.farmer(-1, 0));
    Edges.refused(Due.NOBODY, "farmer 3 of three", y -> y.farmer(3, 0));
    Edges.refused(Due.NOBODY, "farmer least", y -> y.farmer(Edges.LEAST, 0));
    Edges.refused(Due.NOBODY, "farmer most", y -> y.farmer(Edges.MOST, 0));
    Edges.refusedOf(Edges::empty, Due.NOBODY, "farmer 0 of none", y -> y.farmer(0, 0));
    Edges.refusedOf(Edges::full, Due.NOBODY, "farmer 6 of six", y -> y.farmer(6, 0));
    Edges.taken(Edges.full(), "farmer 5 of six", y -> y.farmer(5, 0), 5);
  }

  @Edge(promise = 5, says = "-2.")
  private static void p05_farmer_what() {
    Edges.refused(Due.OTHER, "what -1", y -> y.farmer(0, -1));
    Edges.refused(Due.OTHER, "what 6", y -> y.farmer(0, 6));
    Edges.refused(Due.OTHER, "what least", y -> y.farmer(0, Edges.LEAST));
    Edges.refused(Due.OTHER, "what most", y -> y.farmer(0, Edges.MOST));
    Edges.refused(Due.NOBODY, "farmer 3, what 6: nobody is told", y -> y.farmer(3, 6));
    Edges.refused(Due.NOBODY, "farmer -1, what -1: nobody is told", y -> y.farmer(-1, -1));
  }

  @Edge(promise = 6, says = {
      "He is AT it then: who was there (-9).",
      "AT a FARM (one at most there) or none (at first)."})
  private static void p06_sits_whoWasThere() {
    RotationOfFarmers x = Due.landOf("f000000;f000000;pw0;pw0;");
    Edges.taken(x, "nobody was", y -> y.sits(0, 1), Edges.NONE);
    Edges.taken(x, "he was himself", y -> y.sits(0, 1), 0);
    Due.is("he stays", x.farmer(0, 3), 1);
    Edges.taken(x, "the first was", y -> y.sits(1, 1), 0);
    Due.is("who was is none", x.farmer(0, 3), Edges.NONE);
    Due.is("one alone is there", x.farm(1, 4), 1);
    Edges.taken(x, "he goes to a free one", y -> y.sits(1, 0), Edges.NONE);
    Due.is("his own is free", x.farm(1, 4), Edges.NONE);
    Edges.taken(Edges.full(), "the last at the first", y -> y.sits(5, 0), 0);
    Edges.taken(Edges.full(), "the first at the last", y -> y.sits(0, 5), 5);
  }

  @Edge(promise = 6, says = "-1 either.")
  private static void p06_sits_noSuch() {
    Edges.refused(Due.NOBODY, "farmer -1", y -> y.sits(-1, 0));
    Edges.refused(Due.NOBODY, "farmer 3 of three", y -> y.sits(3, 0));
    Edges.refused(Due.NOBODY, "farm -1", y -> y.sits(0, -1));
    Edges.refused(Due.NOBODY, "farm -9", y -> y.sits(0, Edges.NONE));
    Edges.refused(Due.NOBODY, "farm 3 of three", y -> y.sits(0, 3));
    Edges.refused(Due.NOBODY, "both: once", y -> y.sits(-1, 3));
    Edges.refused(Due.NOBODY, "farmer least", y -> y.sits(Edges.LEAST, 0));
    Edges.refused(Due.NOBODY, "farm most", y -> y.sits(0, Edges.MOST));
    Edges.refusedOf(Edges::empty, Due.NOBODY, "of none", y -> y.sits(0, 0));
    Edges.refusedOf(() -> Due.landOf("f000000;"), Due.NOBODY, "no farmer", y -> y.sits(0, 0));
    Edges.refusedOf(() -> Due.landOf("pw0;"), Due.NOBODY, "no farm", y -> y.sits(0, 0));
    Edges.refusedOf(Edges::full, Due.NOBODY, "farmer 6 of six", y -> y.sits(6, 0));
    Edges.refusedOf(Edges::full, Due.NOBODY, "farm 6 of six", y -> y.sits(0, 6));
  }

  @Edge(promise = 7, says = "He is AT none: where he was.")
  private static void p07_leaves_whereHeWas() {
    RotationOfFarmers x = Edges.full();
    Edges.taken(x, "the first", y -> y.leaves(0), 0);
    Edges.taken(x, "the last", y -> y.leaves(5), 5);
    Due.is("at none", x.farmer(5, 3), Edges.NONE);
    Due.is("nobody there", x.farm(5, 4), Edges.NONE);
    Due.is("the others stay", x.free(1), 1 + 32);
  }

  @Edge(promise = 7, says = {"-1;", "-3 he is AT none.", "-3 STATE: it is not as it must be."})
  private static void p07_leaves_refused() {
    Edges.refused(Due.NOBODY, "farmer -1", y -> y.leaves(-1));
    Edges.refused(Due.NOBODY, "farmer 3 of three", y -> y.leaves(3));
    Edges.refused(Due.NOBODY, "farmer least", y -> y.leaves(Edges.LEAST));
    Edges.refused(Due.NOBODY, "farmer most", y -> y.leaves(Edges.MOST));
    Edges.refused(Due.STATE, "who is at none", y -> y.leaves(2));
    Edges.refusedOf(Edges::empty, Due.NOBODY, "farmer 0 of none", y -> y.leaves(0));
    Edges.refusedOf(() -> Due.landOf("pw0;"), Due.STATE, "who never was at one", y -> y.leaves(0));
    RotationOfFarmers x = Edges.full();
    x.leaves(3);
    Due.is("who has left", x.leaves(3), Due.STATE);
    x.sits(1, 0);
    Due.is("whose farm another has", x.leaves(0), Due.STATE);
    Due.is("counted", x.count(13), 2);
  }

  @Edge(promise = 8, says = "HEART becomes v: what it was.")
  private static void p08_hearts_0And30() {
    RotationOfFarmers x = Edges.full();
    Edges.taken(x, "the first becomes 0", y -> y.hearts(0, 0, 0), 5);
    Edges.taken(x, "and 30", y -> y.hearts(0, 0, 30), 0);
    Edges.taken(x, "the last becomes 30", y -> y.hearts(5, 2, 30), 22);
    Edges.taken(x, "and 0", y -> y.hearts(5, 2, 0), 30);
    Edges.taken(x, "and 0 again", y -> y.hearts(5, 2, 0), 0);
    Edges.heartsAre("the first", x, 0, 30, 6, 7);
    Edges.heartsAre("the last", x, 5, 20, 21, 0);
  }

  @Edge(promise = 8, says = {"-1 either;", "-4;", "-6 30."})
  private static void p08_hearts_refused() {
    Edges.refused(Due.NOBODY, "farm -1", y -> y.hearts(-1, 0, 0));
    Edges.refused(Due.NOBODY, "farm 3 of three", y -> y.hearts(3, 0, 0));
    Edges.refused(Due.NOBODY, "sort -1", y -> y.hearts(1, -1, 0));
    Edges.refused(Due.NOBODY, "sort 3", y -> y.hearts(0, 3, 0));
    Edges.refused(Due.NOBODY, "sort most", y -> y.hearts(0, Edges.MOST, 0));
    Edges.refused(Due.BELOW, "v -1", y -> y.hearts(0, 0, -1));
    Edges.refused(Due.BELOW, "v least", y -> y.hearts(0, 0, Edges.LEAST));
    Edges.refused(Due.ROOM, "v 31", y -> y.hearts(0, 0, 31));
    Edges.refused(Due.ROOM, "v most", y -> y.hearts(0, 0, Edges.MOST));
    Edges.refusedOf(Edges::empty, Due.NOBODY, "farm 0 of none", y -> y.hearts(0, 0, 0));
  }

  @Edge(promise = 8, says = {"-1 either;", "-4;", "-6 30."})
  private static void p08_hearts_bothWrong() {
    Edges.refused(Due.NOBODY, "farm 3, v -1: nobody is told", y -> y.hearts(3, 0, -1));
    Edges.refused(Due.NOBODY, "sort 3, v 31: nobody is told", y -> y.hearts(0, 3, 31));
    Edges.refused(Due.NOBODY, "farm -1, sort -1: nobody once", y -> y.hearts(-1, -1, -1));
  }

  @Edge(promise = 9, says = {"STEP becomes v: what it was.", "STEP (0 .. 5; 1 at first)."})
  private static void p09_steps_0And5() {
    RotationOfFarmers x = new RotationOfFarmers();
    Edges.taken(x, "becomes 0", y -> y.steps(0), 1);
    Edges.taken(x, "becomes 5", y -> y.steps(5), 0);
    Edges.taken(x, "becomes 5 again", y -> y.steps(5), 5);
    Edges.taken(x, "is 5", y -> y.count(3), 5);
  }

  @Edge(promise = 9, says = {"-4;", "-6 5."})
  private static void p09_steps_refused() {
    Edges.refused(Due.BELOW, "-1", y -> y.steps(-1));
    Edges.refused(Due.BELOW, "least", y -> y.steps(Edges.LEAST));
    Edges.refused(Due.ROOM, "6", y -> y.steps(6));
    Edges.refused(Due.ROOM, "most", y -> y.steps(Edges.MOST));
    Edges.refusedOf(Edges::empty, Due.ROOM, "6 without farms", y -> y.steps(6));
  }

  @Edge(promise = 10, says = {"TIRED becomes v: what it was.", "TIRED (0 .. 20; 0 at first)"})
  private static void p10_tires_0And20() {
    RotationOfFarmers x = Edges.full();
    Edges.taken(x, "the last becomes 20", y -> y.tires(5, 20), 0);
    Edges.taken(x, "and 0", y -> y.tires(5, 0), 20);
    Edges.taken(x, "the first becomes 10", y -> y.tires(0, 10), 0);
    Edges.taken(x, "and 10 again", y -> y.tires(0, 10), 10);
    Due.is("worn", x.free(2), 1);
  }

  @Edge(promise = 10, says = {"-1;", "-4;", "-6 20."})
  private static void p10_tires_refused() {
    Edges.refused(Due.NOBODY, "farmer -1", y -> y.tires(-1, 0));
    Edges.refused(Due.NOBODY, "farmer 3 of three", y -> y.tires(3, 0));
    Edges.refused(Due.BELOW, "v -1", y -> y.tires(0, -1));
    Edges.refused(Due.BELOW, "v least", y -> y.tires(0, Edges.LEAST));
    Edges.refused(Due.ROOM, "v 21", y -> y.tires(0, 21));
    Edges.refused(Due.ROOM, "v most", y -> y.tires(0, Edges.MOST));
    Edges.refused(Due.NOBODY, "farmer 3, v -1: nobody is told", y -> y.tires(3, -1));
    Edges.refused(Due.NOBODY, "farmer -1, v 21: nobody is told", y -> y.tires(-1, 21));
    Edges.refusedOf(Edges::empty, Due.NOBODY, "farmer 0 of none", y -> y.tires(0, 0));
  }

  @Edge(promise = 11, says = {
      "KIND, FIGURE become others: 10 times the KIND and the FIGURE it had.",
      "FIGURE (0 .. 9)"})
  private static void p11_turn_leastAndGreatest() {
    RotationOfFarmers x = Edges.full();
    x.tires(5, 7);
    Edges.taken(x, "mr ames of 5 becomes a whig of 0", y -> y.turn(5, 0, 0), 55);
    Edges.taken(x, "and mr ames of 9", y -> y.turn(5, 5, 9), 0);
    Edges.taken(x, "and the same", y -> y.turn(5, 5, 9), 59);
    Due.is("kind", x.farmer(5, 0), 5);
    Due.is("figure", x.farmer(5, 1), 9);
    Due.is("tired stays", x.farmer(5, 2), 7);
    Due.is("where he is stays", x.farmer(5, 3), 5);
  }

  @Edge(promise = 11, says = {"-1;", "-2;", "-4;", "-6 9."})
  private static void p11_turn_refused() {
    Edges.refused(Due.NOBODY, "farmer -1", y -> y.turn(-1, 0, 0));
    Edges.refused(Due.NOBODY, "farmer 3 of three", y -> y.turn(3, 0, 0));
    Edges.refused(Due.OTHER, "kind -1", y -> y.turn(0, -1, 0));
    Edges.refused(Due.OTHER, "kind 6", y -> y.turn(0, 6, 0));
    Edges.refused(Due.OTHER, "kind least", y -> y.turn(0, Edges.LEAST, 0));
    Edges.refused(Due.OTHER, "kind most", y -> y.turn(0, Edges.MOST, 0));
    Edges.refused(Due.BELOW, "figure -1", y -> y.turn(0, 1, -1));
    Edges.refused(Due.BELOW, "figure least", y -> y.turn(0, 1, Edges.LEAST));
    Edges.refused(Due.ROOM, "figure 10", y -> y.turn(0, 1, 10));
    Edges.refused(Due.ROOM, "figure most", y -> y.turn(0, 1, Edges.MOST));
    Edges.refusedOf(Edges::empty, Due.NOBODY, "farmer 0 of none", y -> y.turn(0, 0, 0));
  }

  @Edge(promise = 11, says = {"-1;", "-2;", "-4;", "-6 9."})
  private static void p11_turn_bothWrong() {
    Edges.refused(Due.NOBODY, "farmer 3, kind 6: nobody is told", y -> y.turn(3, 6, 0));
    Edges.refused(Due.NOBODY, "farmer 3, figure -1: nobody is told", y -> y.turn(3, 0, -1));
    Edges.refused(Due.NOBODY, "farmer 3, figure 10: nobody is told", y -> y.turn(3, 0, 10));
    Edges.refused(Due.OTHER, "kind 6, figure -1: other is told", y -> y.turn(0, 6, -1));
    Edges.refused(Due.OTHER, "kind -1, figure 10: other is told", y -> y.turn(0, -1, 10));
  }

  @Edge(promise = 12, says = {
      "KINDS of FARMERS, GROWS (by the HEARTS of his FARM as they are), how much more or less each SORT has"
          + " behind it, TIRES:",
      "w WHIG: SORT 0 by 2, cut; SORT 0 3 less, SORT 1 1 more; 2."})
  private static void p12_whig() {
    int[][] due = {{0, 0}, {1, 0}, {2, 1}, {3, 1}, {29, 14}, {30, 15}};
    for (int[] d : due) {
      grows(WHIG, d[0], 30, 30, d[1]);
    }
    gives(WHIG, 9, of(30, 29, 30), of(27, 30, 30));
    gives(WHIG, 9, of(4, 30, 0), of(1, 30, 0));
    gives(WHIG, 9, of(3, 0, 0), of(0, 1, 0));
    gives(WHIG, 9, of(2, 0, 0), of(0, 1, 0));
    gives(WHIG, 9, of(0, 0, 0), of(0, 1, 0));
    Due.is("tires", tiredBehindAYear(WHIG, 0), 2);
  }

  @Edge(promise = 12, says = "t TORY under WHIG: SORT 1 by 2, cut; SORT 1 3 less, SORT 2 1 more; 1.")
  private static void p12_tory() {
    int[][] due = {{0, 0}, {1, 0}, {2, 1}, {3, 1}, {29, 14}, {30, 15}};
    for (int[] d : due) {
      grows(TORY, 30, d[0], 30, d[1]);
    }
    gives(TORY, 9, of(30, 30, 29), of(30, 27, 30));
    gives(TORY, 9, of(0, 4, 30), of(0, 1, 30));
    gives(TORY, 9, of(0, 3, 0), of(0, 0, 1));
    gives(TORY, 9, of(0, 2, 0), of(0, 0, 1));
    gives(TORY, 9, of(0, 0, 0), of(0, 0, 1));
    Due.is("tires", tiredBehindAYear(TORY, 0), 1);
  }

  @Edge(promise = 12, says = {
      "r ROOTS under WHIG: 3 more than a WHIG; SORT 2 4 less, SORT 0 1 more; as a WHIG.",
      "Where it is not told as above them."})
  private static void p12_roots() {
    int[][] due = {{0, 3}, {1, 3}, {2, 4}, {3, 4}, {29, 17}, {30, 18}};
    for (int[] d : due) {
      grows(ROOTS, d[0], 30, 30, d[1]);
    }
    gives(ROOTS, 9, of(29, 30, 30), of(30, 30, 26));
    gives(ROOTS, 9, of(30, 0, 5), of(30, 0, 1));
    gives(ROOTS, 9, of(0, 0, 4), of(1, 0, 0));
    gives(ROOTS, 9, of(0, 0, 3), of(1, 0, 0));
    gives(ROOTS, 9, of(0, 0, 0), of(1, 0, 0));
    Due.is("tires", tiredBehindAYear(ROOTS, 0), 2);
  }

  @Edge(promise = 12, says =
      "c CLOVER under TORY: half as much as a TORY, cut; SORT 0 3 more, SORT 1 1 less; as a TORY.")
  private static void p12_clover() {
    int[][] due = {{0, 0}, {1, 0}, {2, 0}, {3, 0}, {4, 1}, {7, 1}, {8, 2}, {27, 6}, {28, 7}, {30, 7}};
    for (int[] d : due) {
      grows(CLOVER, 30, d[0], 30, d[1]);
    }
    gives(CLOVER, 9, of(27, 30, 30), of(30, 29, 30));
    gives(CLOVER, 9, of(28, 2, 0), of(30, 1, 0));
    gives(CLOVER, 9, of(30, 1, 0), of(30, 0, 0));
    gives(CLOVER, 9, of(0, 0, 0), of(3, 0, 0));
    Due.is("tires", tiredBehindAYear(CLOVER, 0), 1);
  }

  @Edge(promise = 12, says = "f FALLOW under CLOVER: 0; each SORT FIGURE by 3, cut, and 1 more; 3.")
  private static void p12_fallow() {
    grows(FALLOW, 30, 30, 30, 0);
    grows(FALLOW, 0, 0, 0, 0);
    int[] more = {1, 1, 1, 2, 2, 2, 3, 3, 3, 4};
    for (int figure = 0; figure <= 9; figure++) {
      int m = more[figure];
      gives(FALLOW, figure, of(0, 10, 20), of(m, 10 + m, 20 + m));
      gives(FALLOW, figure, of(30, 30 - m, 31 - m), of(30, 30, 30));
    }
    Due.is("tires", tiredBehindAYear(FALLOW, 0), 3);
  }

  @Edge(promise = 12, says = "m MR AMES under FALLOW: 0; as a FALLOW one, SORT 0 2 more besides; 4.")
  private static void p12_mrAmes() {
    grows(MR_AMES, 30, 30, 30, 0);
    grows(MR_AMES, 0, 0, 0, 0);
    int[] more = {1, 1, 1, 2, 2, 2, 3, 3, 3, 4};
    for (int figure = 0; figure <= 9; figure++) {
      int m = more[figure];
      gives(MR_AMES, figure, of(0, 10, 20), of(m + 2, 10 + m, 20 + m));
      gives(MR_AMES, figure, of(28 - m, 30, 31 - m), of(30, 30, 30));
      gives(MR_AMES, figure, of(29 - m, 30, 29), of(30, 30, 30));
    }
    Due.is("tires", tiredBehindAYear(MR_AMES, 0), 4);
  }

  @Edge(promise = 12, says = {
      "Who is TIRED 10 or more GROWS nothing, changes nothing, and is TIRED 5 less behind the YEAR (0 at least;"
          + " he does not TIRE).",
      "or rests as told;"})
  private static void p12_tired9And10() {
    int[] tires = {2, 1, 2, 1, 3, 4};
    for (int kind = 0; kind < 6; kind++) {
      Due.is("kind " + kind + ", tired 9, works", tiredBehindAYear(kind, 9), 9 + tires[kind]);
      Due.is("kind " + kind + ", tired 10, rests", tiredBehindAYear(kind, 10), 5);
      Due.is("kind " + kind + ", tired 11, rests", tiredBehindAYear(kind, 11), 6);
      Due.is("kind " + kind + ", tired 20, rests", tiredBehindAYear(kind, 20), 15);
      RotationOfFarmers x = one(kind, 9, 20, 20, 20);
      x.tires(0, 10);
      Due.is("kind " + kind + ", tired 10, grows nothing", x.years(1), 0);
      Edges.heartsAre("kind " + kind + ", tired 10, changes nothing", x, 0, 20, 20, 20);
      Due.is("rested, he works", x.farmer(0, 4), kind == ROOTS ? 13 : kind == CLOVER ? 5 : kind < 2 ? 10 : 0);
    }
  }

  @Edge(promise = 12, says = "then he TIRES (20 at most), or rests as told;")
  private static void p12_tiresFrom9AtMost() {
    RotationOfFarmers x = one(MR_AMES, 0, 0, 0, 0);
    int most = 0;
    for (int i = 0; i < 60; i++) {
      x.years(1);
      most = Math.max(most, x.farmer(0, 2));
    }
    Due.is("4, 8, 12, 7, 11, 6, 10, 5, 9, 13: the most that work alone makes", most, 13);
    x.tires(0, 20);
    x.years(1);
    Due.is("who is tired 20 does not tire", x.farmer(0, 2), 15);
  }

  @Edge(promise = 12, says =
      "each FARMER who is AT a FARM: what he GROWS is in the BARN (9999 at most), then its HEARTS change (0 at"
          + " least, 30 at most each)")
  private static void p12_barn9999() {
    int[] hearts = {10, 12, 14};
    int[] barns = {9998, 9999, 9999};
    for (int i = 0; i < hearts.length; i++) {
      RotationOfFarmers x = Edges.nearlyFullBarn(hearts[i]);
      Due.is("what grows", x.crop(-1, 1), 54 + 3 + hearts[i] / 2);
      Due.is("in thought", x.barnThen(1), barns[i]);
      Edges.taken(x, "of 10000 at heart 14", y -> y.years(1), barns[i]);
      Due.is("barn", x.count(4), barns[i]);
      Edges.taken(x, "a year more", y -> y.years(1), 9999);
      Edges.taken(x, "sixty more", y -> y.years(60), 9999);
      Due.isTrue("what grows has no end", x.crop(-1, 60) > 1000);
    }
  }

  @Edge(promise = 12, says = "who is AT none is TIRED 5 less (0 at least);")
  private static void p12_idleRests() {
    int[] tired = {0, 1, 4, 5, 6, 20};
    int[] due = {0, 0, 0, 0, 1, 15};
    RotationOfFarmers x = Due.landOf("pw0;pt0;pr0;pc0;pf0;pm0;");
    for (int f = 0; f < 6; f++) {
      x.tires(f, tired[f]);
    }
    x.years(1);
    for (int f = 0; f < 6; f++) {
      Due.is("tired " + tired[f], x.farmer(f, 2), due[f]);
    }
    x.years(60);
    Due.is("behind sixty", x.farmer(5, 2), 0);
  }

  @Edge(promise = 12, says =
      "then all who are AT FARMS move STEP FARMS on (behind the last comes the first), all at once.")
  private static void p12_movingOn() {
    for (int farms = 1; farms <= 6; farms++) {
      for (int step = 0; step <= 5; step++) {
        RotationOfFarmers x = Due.landOf("f000000;".repeat(farms) + "pw0;pt0;s" + step + ";");
        x.sits(0, farms - 1);
        x.years(1);
        Due.is("the last of " + farms + " by " + step, x.farmer(0, 3), (farms - 1 + step) % farms);
        Due.is("who is at none", x.farmer(1, 3), Edges.NONE);
      }
    }
    RotationOfFarmers six = Edges.full();
    six.steps(5);
    six.years(1);
    for (int f = 0; f < 6; f++) {
      Due.is("all at once, farmer " + f, six.farmer(f, 3), (f + 5) % 6);
    }
    six.steps(0);
    six.years(60);
    Due.is("by step 0 all stay", six.farmer(0, 3), 5);
  }

  @Edge(promise = 12, says = {
      "A FARM without a FARMER has each HEART 1 more (30 at most), ahead of the moving.",
      "A YEAR: YEAR is 1 more;"})
  private static void p12_farmAlone() {
    RotationOfFarmers x = Due.landOf("f002930;f303030;f101010;pw0;a02;s1;y01;");
    Edges.heartsAre("alone, though he comes then", x, 0, 1, 30, 30);
    Edges.heartsAre("alone and full", x, 1, 30, 30, 30);
    Edges.heartsAre("left only by the moving", x, 2, 7, 11, 10);
    Due.is("he has come", x.farm(0, 4), 0);
    Due.is("year", x.count(2), 1);
    x.years(60);
    Due.is("year", x.count(2), 61);
    RotationOfFarmers worn = Due.landOf("f101010;pf9;a00;");
    worn.tires(0, 20);
    worn.years(1);
    Edges.heartsAre("one who is worn is a farmer there", worn, 0, 10, 10, 10);
  }

  @Edge(promise = 12, says = "n YEARS (1 .. 60) go by: what the BARN has.")
  private static void p12_years_1And60() {
    Edges.taken(new RotationOfFarmers(), "one, without farms", y -> y.years(1), 0);
    Edges.taken(new RotationOfFarmers(), "sixty, without farms", y -> y.years(60), 0);
    RotationOfFarmers x = one(ROOTS, 0, 30, 30, 30);
    Edges.taken(x, "one", y -> y.years(1), 18);
    Edges.taken(x, "sixty more", y -> y.years(60), 18 * (44 + 1));
    Due.is("year", x.count(2), 61);
  }

  @Edge(promise = 12, says = {"-4;", "-6 (60; YEAR above 999)."})
  private static void p12_years_refused() {
    Edges.refused(Due.BELOW, "0", y -> y.years(0));
    Edges.refused(Due.BELOW, "-1", y -> y.years(-1));
    Edges.refused(Due.BELOW, "least", y -> y.years(Edges.LEAST));
    Edges.refused(Due.ROOM, "61", y -> y.years(61));
    Edges.refused(Due.ROOM, "most", y -> y.years(Edges.MOST));
  }

  @Edge(promise = 12, says = {"-6 (60; YEAR above 999).", "YEAR (0 .. 999; 0 at first)."})
  private static void p12_years_999() {
    RotationOfFarmers x = Edges.inYear(939);
    Edges.taken(x, "sixty, to 999", y -> y.years(60), 0);
    Due.is("year", x.count(2), 999);
    Edges.refusedOf(() -> Edges.inYear(940), Due.ROOM, "sixty, to 1000", y -> y.years(60));
    Edges.refusedOf(() -> Edges.inYear(998), Due.ROOM, "two, to 1000", y -> y.years(2));
    Edges.taken(Edges.inYear(998), "one, to 999", y -> y.years(1), 0);
    Edges.refusedOf(() -> Edges.inYear(999), Due.ROOM, "one, to 1000", y -> y.years(1));
    Edges.refusedOf(() -> Edges.inYear(999), Due.ROOM, "61: room once", y -> y.years(61));
    Edges.refusedOf(() -> Edges.inYear(999), Due.BELOW, "0: below is told", y -> y.years(0));
    Edges.refusedOf(() -> Edges.inYear(999), Due.ROOM, "most", y -> y.years(Edges.MOST));
  }
}
