/** Boundary cases of promises 13 to 21: years that pass in mind, and the steps by which most grows. */
public final class EdgesOfThoughtTest {
  public static void main(String[] args) {
    Edges.run(EdgesOfThoughtTest.class);
  }

  @Edge(promise = 13, says = {
      "A HEART.",
      "In mind, n YEARS on (0 .. 60): a HEART; TIRED; where a FARMER is (-9); the BARN."})
  private static void p13_heartThen_0And60() {
    RotationOfFarmers x = Due.landOf("f000000;f102030;");
    for (int n = 0; n <= 60; n++) {
      Due.is("from 0 in " + n, x.heartThen(0, 0, n), Math.min(30, n));
    }
    Edges.taken(x, "from 0 in 60", y -> y.heartThen(0, 0, 60), 30);
    Edges.taken(x, "the last farm and sort in 0", y -> y.heartThen(1, 2, 0), 30);
    Edges.taken(x, "the last farm in 60", y -> y.heartThen(1, 0, 60), 30);
    Due.is("it is as it was", x.farm(0, 0), 0);
    Due.is("year", x.count(2), 0);
  }

  @Edge(promise = 13, says = "A HEART.")
  private static void p13_heartThen_sixFarms() {
    RotationOfFarmers x = Edges.full();
    Edges.taken(x, "the first heart of the first", y -> y.heartThen(0, 0, 1), 5 - 3);
    Edges.taken(x, "the first heart of the last", y -> y.heartThen(5, 0, 1), 20 + 2 + 2);
    Edges.taken(x, "the last heart of the last", y -> y.heartThen(5, 2, 1), 22 + 2);
    Edges.taken(x, "then the first of all works there", y -> y.heartThen(5, 2, 2), 24 + 2);
  }

  @Edge(promise = 13, says = {"-1 either;", "-4;", "-6 60."})
  private static void p13_heartThen_refused() {
    Edges.refused(Due.NOBODY, "farm -1", y -> y.heartThen(-1, 0, 0));
    Edges.refused(Due.NOBODY, "farm 3 of three", y -> y.heartThen(3, 0, 0));
    Edges.refused(Due.NOBODY, "sort -1", y -> y.heartThen(1, -1, 0));
    Edges.refused(Due.NOBODY, "sort 3", y -> y.heartThen(0, 3, 0));
    Edges.refused(Due.BELOW, "n -1", y -> y.heartThen(0, 0, -1));
    Edges.refused(Due.BELOW, "n least", y -> y.heartThen(0, 0, Edges.LEAST));
    Edges.refused(Due.ROOM, "n 61", y -> y.heartThen(0, 0, 61));
    Edges.refused(Due.ROOM, "n most", y -> y.heartThen(0, 0, Edges.MOST));
    Edges.refused(Due.NOBODY, "farm 3, n -1: nobody is told", y -> y.heartThen(3, 0, -1));
    Edges.refused(Due.NOBODY, "sort 3, n 61: nobody is told", y -> y.heartThen(0, 3, 61));
    Edges.refusedOf(Edges::empty, Due.NOBODY, "farm 0 of none", y -> y.heartThen(0, 0, 0));
  }

  @Edge(promise = 13, says = "(In thought YEAR may pass 999.)")
  private static void p13_heartThen_beyondYear999() {
    RotationOfFarmers x = Edges.inYear(999);
    Due.tell(x, "f000000;f000000;pr0;a00;");
    Edges.taken(x, "heart behind year 999", y -> y.heartThen(1, 1, 1), 1);
    Edges.taken(x, "heart behind 60", y -> y.heartThen(0, 1, 60) + y.heartThen(1, 1, 60), 30 + 30);
    Edges.taken(x, "where he is", y -> y.farmerThen(0, 1, 1), 1);
    Edges.taken(x, "how tired", y -> y.farmerThen(0, 5, 0), 10);
    Edges.taken(x, "barn", y -> y.barnThen(2), 3 + 3);
    Edges.taken(x, "crop", y -> y.crop(-1, 2), 6);
    Edges.taken(x, "best step", y -> y.bestStep(1, 1), 3);
    Edges.taken(x, "round", RotationOfFarmers::round, 2);
    Edges.taken(x, "hundreds", y -> Math.min(1, y.lots(1, 1, 0)), 1);
    Edges.taken(x, "frost", y -> y.frost(2, 2, 6, 1), 4);
    Due.is("year", x.count(2), 999);
    Due.is("years", x.years(1), Due.ROOM);
  }

  @Edge(promise = 14, says = {"TIRED (what 0), where he is (1; -9).", "where a FARMER is (-9)"})
  private static void p14_farmerThen_0And60() {
    RotationOfFarmers x = Due.landOf("f303030;f303030;f303030;pw0;pt0;a02;s1;");
    x.tires(0, 9);
    x.tires(1, 20);
    Edges.taken(x, "tired now", y -> y.farmerThen(0, 0, 0), 9);
    Edges.taken(x, "where now", y -> y.farmerThen(0, 0, 1), 2);
    Edges.taken(x, "tired in 1", y -> y.farmerThen(0, 1, 0), 11);
    Edges.taken(x, "where in 1", y -> y.farmerThen(0, 1, 1), 0);
    Edges.taken(x, "tired in 2", y -> y.farmerThen(0, 2, 0), 6);
    Edges.taken(x, "where in 60", y -> y.farmerThen(0, 60, 1), 2);
    Edges.taken(x, "the idle one now", y -> y.farmerThen(1, 0, 0), 20);
    Edges.taken(x, "the idle one in 4", y -> y.farmerThen(1, 4, 0), 0);
    Edges.taken(x, "the idle one in 60", y -> y.farmerThen(1, 60, 0), 0);
    Edges.taken(x, "the idle one at none", y -> y.farmerThen(1, 0, 1), Edges.NONE);
    Edges.taken(x, "the idle one at none in 60", y -> y.farmerThen(1, 60, 1), Edges.NONE);
    Due.is("tired as he was", x.farmer(0, 2), 9);
  }

  @Edge(promise = 14, says = "TIRED (what 0), where he is (1; -9).")
  private static void p14_farmerThen_sixFarmers() {
    RotationOfFarmers x = Edges.full();
    Edges.taken(x, "the last is tired", y -> y.farmerThen(5, 1, 0), 4);
    Edges.taken(x, "behind the last farm comes the first", y -> y.farmerThen(5, 1, 1), 0);
    Edges.taken(x, "the first moves on", y -> y.farmerThen(0, 5, 1), 5);
    Edges.taken(x, "ten rounds", y -> y.farmerThen(5, 60, 1), 5);
  }

  @Edge(promise = 14, says = {"-1;", "-4;", "-6 60;", "-2."})
  private static void p14_farmerThen_refused() {
    Edges.refused(Due.NOBODY, "farmer -1", y -> y.farmerThen(-1, 0, 0));
    Edges.refused(Due.NOBODY, "farmer 3 of three", y -> y.farmerThen(3, 0, 0));
    Edges.refused(Due.BELOW, "n -1", y -> y.farmerThen(0, -1, 0));
    Edges.refused(Due.BELOW, "n least", y -> y.farmerThen(0, Edges.LEAST, 0));
    Edges.refused(Due.ROOM, "n 61", y -> y.farmerThen(0, 61, 0));
    Edges.refused(Due.ROOM, "n most", y -> y.farmerThen(0, Edges.MOST, 0));
    Edges.refused(Due.OTHER, "what -1", y -> y.farmerThen(0, 0, -1));
    Edges.refused(Due.OTHER, "what 2", y -> y.farmerThen(0, 60, 2));
    Edges.refused(Due.OTHER, "what most", y -> y.farmerThen(0, 0, Edges.MOST));
    Edges.refusedOf(Edges::empty, Due.NOBODY, "farmer 0 of none", y -> y.farmerThen(0, 0, 0));
  }

  @Edge(promise = 14, says = {"-1;", "-4;", "-6 60;", "-2."})
  private static void p14_farmerThen_bothWrong() {
    Edges.refused(Due.NOBODY, "farmer 3, n -1, what 2: nobody is told", y -> y.farmerThen(3, -1, 2));
    Edges.refused(Due.NOBODY, "farmer 3, what 2: nobody is told", y -> y.farmerThen(3, 0, 2));
    Edges.refused(Due.BELOW, "n -1, what 2: below is told", y -> y.farmerThen(0, -1, 2));
    Edges.refused(Due.ROOM, "n 61, what -1: room is told", y -> y.farmerThen(0, 61, -1));
  }

  @Edge(promise = 15, says = "The BARN.")
  private static void p15_barnThen_0And60() {
    RotationOfFarmers x = Due.landOf("f303030;pr0;a00;y01;");
    Edges.taken(x, "now", y -> y.barnThen(0), 18);
    Edges.taken(x, "in 1", y -> y.barnThen(1), 36);
    Edges.taken(x, "in 60", y -> y.barnThen(60), 18 * 45);
    Due.is("it is as it was", x.count(4), 18);
    Edges.taken(new RotationOfFarmers(), "without farms, in 60", y -> y.barnThen(60), 0);
    Edges.taken(Edges.full(), "six and six, in 1", y -> y.barnThen(1), 2 + 4 + 8 + 3);
  }

  @Edge(promise = 15, says = {"The BARN.", "BARN (corn, 0 .. 9999; 0 at first)."})
  private static void p15_barnThen_9999() {
    Edges.taken(Edges.nearlyFullBarn(10), "9998", y -> y.barnThen(1), 9998);
    Edges.taken(Edges.nearlyFullBarn(12), "9999", y -> y.barnThen(1), 9999);
    Edges.taken(Edges.nearlyFullBarn(14), "of 10000", y -> y.barnThen(1), 9999);
    Edges.taken(Edges.nearlyFullBarn(14), "of more, in 60", y -> y.barnThen(60), 9999);
  }

  @Edge(promise = 15, says = {"-4;", "-6 60."})
  private static void p15_barnThen_refused() {
    Edges.refused(Due.BELOW, "-1", y -> y.barnThen(-1));
    Edges.refused(Due.BELOW, "least", y -> y.barnThen(Edges.LEAST));
    Edges.refused(Due.ROOM, "61", y -> y.barnThen(61));
    Edges.refused(Due.ROOM, "most", y -> y.barnThen(Edges.MOST));
    Edges.refusedOf(Edges::empty, Due.ROOM, "61 without farms", y -> y.barnThen(61));
  }

  @Edge(promise = 16, says = {"GREENEST; -9.", "GREENEST: of most, of several the least; -9."})
  private static void p16_greenest() {
    Edges.taken(new RotationOfFarmers(), "without farms", RotationOfFarmers::greenest, Edges.NONE);
    Edges.taken(Due.landOf("pw0;"), "with a farmer alone", RotationOfFarmers::greenest, Edges.NONE);
    Edges.taken(Due.landOf("f000000;"), "one of 0", RotationOfFarmers::greenest, 0);
    Edges.taken(Due.landOf("f000000;f000000;"), "two of 0", RotationOfFarmers::greenest, 0);
    Edges.taken(Due.landOf("f000000;f000001;"), "the last by 1", RotationOfFarmers::greenest, 1);
    Edges.taken(Due.landOf("f303029;f303030;f303030;"), "of two of 90 the least", RotationOfFarmers::greenest, 1);
    Edges.taken(Due.landOf("f300000;f003000;f000030;"), "alike by other sorts", RotationOfFarmers::greenest, 0);
    Edges.taken(Edges.full(), "the last of six", RotationOfFarmers::greenest, 5);
  }

  /** The first year of 0 .. 60 behind which a heart is 0, asked heart by heart. */
  private static void lostIs(String text, int which, int when) {
    RotationOfFarmers x = Due.landOf(text);
    int farms = x.count(0);
    for (int n = 0; n <= 60 && (when == Edges.NONE || n <= when); n++) {
      RotationOfFarmers z = Due.landOf(text);
      int barren = Edges.NONE;
      for (int farm = farms - 1; farm >= 0; farm--) {
        boolean lost = z.heartThen(farm, 0, n) == 0 || z.heartThen(farm, 1, n) == 0 || z.heartThen(farm, 2, n) == 0;
        barren = lost ? farm : barren;
      }
      Due.is("lost behind " + n + " of " + text, barren, n == when ? which : Edges.NONE);
    }
    Edges.taken(x, "which of " + text, y -> y.lost(0), which);
    Edges.taken(x, "when of " + text, y -> y.lost(1), when);
    Edges.taken(x, "in heart of " + text, RotationOfFarmers::inHeart, when == Edges.NONE ? 61 : when);
  }

  @Edge(promise = 17, says = {
      "LOST: which (what 0; -9), when (1; -9).",
      "LOST: the FARM of which some SORT is 0 first (within 60 YEARS), of several the least; -9; when."})
  private static void p17_lost_nowAndNever() {
    lostIs("f010101;", Edges.NONE, Edges.NONE);
    lostIs("f010100;", 0, 0);
    lostIs("f000101;", 0, 0);
    lostIs("f010001;", 0, 0);
    lostIs("f010101;f010001;f000000;", 1, 0);
    Edges.taken(new RotationOfFarmers(), "which, without farms", y -> y.lost(0), Edges.NONE);
    Edges.taken(new RotationOfFarmers(), "when, without farms", y -> y.lost(1), Edges.NONE);
    Edges.taken(Due.landOf("pw0;"), "with a farmer alone", y -> y.lost(0), Edges.NONE);
  }

  @Edge(promise = 17, says = "some SORT is 0 first (within 60 YEARS), of several the least;")
  private static void p17_lost_1And60And61() {
    lostIs("f303030;f303004;pr3;a01;s0;", 1, 1);
    lostIs("f303030;f303004;f303004;pr3;pr3;a02;a11;s0;", 1, 1);
    lostIs("f303030;f303004;f303005;pr3;pr3;a02;a11;s0;", 1, 1);
    lostIs("f303030;f303005;f303004;pr3;pr3;a02;a11;s0;", 2, 1);
    lostIs("f062329;f202805;f262113;pt1;a00;s1;y01;", 0, 60);
    lostIs("f062329;f202805;f262113;pt1;a00;s1;", Edges.NONE, Edges.NONE);
    lostIs("f251321;f221723;f202929;pm4;pt5;a00;a11;s2;y01;", 1, 60);
    lostIs("f251321;f221723;f202929;pm4;pt5;a00;a11;s2;", Edges.NONE, Edges.NONE);
  }

  @Edge(promise = 17, says = "-2.")
  private static void p17_lost_refused() {
    Edges.refused(Due.OTHER, "what -1", y -> y.lost(-1));
    Edges.refused(Due.OTHER, "what 2", y -> y.lost(2));
    Edges.refused(Due.OTHER, "what least", y -> y.lost(Edges.LEAST));
    Edges.refused(Due.OTHER, "what most", y -> y.lost(Edges.MOST));
    Edges.refusedOf(Edges::empty, Due.OTHER, "what 2 without farms", y -> y.lost(2));
  }

  @Edge(promise = 18, says = {
      "CROP of a FARM (-1: of all).",
      "CROP: what grows in the next n YEARS (1 .. 60) of a FARM; of all: as the BARN has no end."})
  private static void p18_crop_1And60() {
    RotationOfFarmers x = Due.landOf("f303030;f303030;pr0;a01;s0;");
    Edges.taken(x, "of the last in 1", y -> y.crop(1, 1), 18);
    Edges.taken(x, "of the last in 60", y -> y.crop(1, 60), 18 * 44);
    Edges.taken(x, "of the first in 60", y -> y.crop(0, 60), 0);
    Edges.taken(x, "of all in 1", y -> y.crop(-1, 1), 18);
    Edges.taken(x, "of all in 60", y -> y.crop(-1, 60), 18 * 44);
    Edges.taken(new RotationOfFarmers(), "of all of none", y -> y.crop(-1, 1), 0);
    Due.is("year", x.count(2), 0);
    Due.is("barn", x.count(4), 0);
  }

  @Edge(promise = 18, says = "of all: as the BARN has no end.")
  private static void p18_crop_barnFull() {
    RotationOfFarmers x = Edges.fullBarn();
    Due.tell(x, "a00;h0030;");
    Edges.taken(x, "of all in 1", y -> y.crop(-1, 1), 18);
    Edges.taken(x, "of the farm in 1", y -> y.crop(0, 1), 18);
    Edges.taken(x, "of all in 60", y -> y.crop(-1, 60), 18 * 44);
    Edges.taken(x, "the barn in 60", y -> y.barnThen(60), 9999);
  }

  @Edge(promise = 18, says = "CROP of a FARM (-1: of all).")
  private static void p18_crop_sixFarms() {
    RotationOfFarmers x = Edges.full();
    int[] due = {2, 4, 5 + 3, 3, 0, 0};
    for (int f = 0; f < 6; f++) {
      int farm = f;
      Edges.taken(x, "of farm " + f, y -> y.crop(farm, 1), due[f]);
    }
    Edges.taken(x, "of all", y -> y.crop(-1, 1), 17);
    Edges.taken(x, "of the last in 3: half of half of 21 and 2 and 2", y -> y.crop(5, 3), 6);
  }

  @Edge(promise = 18, says = {"-1;", "-4 below 1;", "-6 60."})
  private static void p18_crop_refused() {
    Edges.refused(Due.NOBODY, "farm -2", y -> y.crop(-2, 1));
    Edges.refused(Due.NOBODY, "farm 3 of three", y -> y.crop(3, 1));
    Edges.refused(Due.NOBODY, "farm least", y -> y.crop(Edges.LEAST, 1));
    Edges.refused(Due.NOBODY, "farm most", y -> y.crop(Edges.MOST, 1));
    Edges.refused(Due.BELOW, "0", y -> y.crop(0, 0));
    Edges.refused(Due.BELOW, "of all, 0", y -> y.crop(-1, 0));
    Edges.refused(Due.BELOW, "least", y -> y.crop(0, Edges.LEAST));
    Edges.refused(Due.ROOM, "61", y -> y.crop(0, 61));
    Edges.refused(Due.ROOM, "of all, 61", y -> y.crop(-1, 61));
    Edges.refused(Due.ROOM, "most", y -> y.crop(-1, Edges.MOST));
    Edges.refused(Due.NOBODY, "farm -2, 0: nobody is told", y -> y.crop(-2, 0));
    Edges.refused(Due.NOBODY, "farm 3, 61: nobody is told", y -> y.crop(3, 61));
    Edges.refusedOf(Edges::empty, Due.NOBODY, "farm 0 of none", y -> y.crop(0, 1));
  }

  @Edge(promise = 19, says = {
      "BEST STEP: that (what 0), how much (1).",
      "BEST STEP: that by which most grows of all in the next n YEARS (1 .. 30), of several the least; that."})
  private static void p19_bestStep_0And5() {
    for (int best = 0; best <= 5; best++) {
      RotationOfFarmers x = Due.landOf("f000000;f000000;f000000;f000000;f000000;f000000;pw0;a00;s3;");
      x.hearts(best, 0, best == 0 ? 30 : 20);
      int most = best == 0 ? 15 + 13 : 10;
      int step = best;
      Edges.taken(x, "best is " + best, y -> y.bestStep(2, 0), step);
      Edges.taken(x, "how much by " + best, y -> y.bestStep(2, 1), most);
      Due.is("the step stays", x.count(3), 3);
    }
  }

  @Edge(promise = 19, says = "of several the least; that.")
  private static void p19_bestStep_alike() {
    RotationOfFarmers x = Due.landOf("f200000;f300000;pw0;a00;s5;");
    Edges.taken(x, "in 1 all are alike", y -> y.bestStep(1, 0), 0);
    Edges.taken(x, "how much in 1", y -> y.bestStep(1, 1), 10);
    Edges.taken(x, "in 2 steps 1, 3 and 5 are alike", y -> y.bestStep(2, 0), 1);
    Edges.taken(x, "how much in 2", y -> y.bestStep(2, 1), 25);
    RotationOfFarmers stays = Due.landOf("f303030;pr0;a00;s5;");
    Edges.taken(stays, "one farm, in 30", y -> y.bestStep(30, 0), 0);
    Edges.taken(stays, "how much in 30", y -> y.bestStep(30, 1), 18 * 23);
    Edges.taken(new RotationOfFarmers(), "without farms", y -> y.bestStep(30, 0), 0);
    Edges.taken(new RotationOfFarmers(), "how much without farms", y -> y.bestStep(1, 1), 0);
    Edges.taken(Edges.full(), "six and six, in 1", y -> y.bestStep(1, 0), 0);
    Edges.taken(Edges.full(), "how much of six and six", y -> y.bestStep(1, 1), 17);
  }

  @Edge(promise = 19, says = "most grows of all")
  private static void p19_bestStep_barnFull() {
    RotationOfFarmers x = Edges.fullBarn();
    Due.tell(x, "a00;h2030;");
    Edges.taken(x, "best", y -> y.bestStep(2, 0), 2);
    Edges.taken(x, "how much", y -> y.bestStep(2, 1), 3 + 18);
  }

  @Edge(promise = 19, says = {"-4 below 1;", "-6 30;", "-2."})
  private static void p19_bestStep_refused() {
    Edges.refused(Due.BELOW, "0", y -> y.bestStep(0, 0));
    Edges.refused(Due.BELOW, "least", y -> y.bestStep(Edges.LEAST, 0));
    Edges.refused(Due.ROOM, "31", y -> y.bestStep(31, 0));
    Edges.refused(Due.ROOM, "most", y -> y.bestStep(Edges.MOST, 0));
    Edges.refused(Due.OTHER, "what -1", y -> y.bestStep(1, -1));
    Edges.refused(Due.OTHER, "what 2", y -> y.bestStep(30, 2));
    Edges.refused(Due.BELOW, "0, what 2: below is told", y -> y.bestStep(0, 2));
    Edges.refused(Due.ROOM, "31, what -1: room is told", y -> y.bestStep(31, -1));
  }

  @Edge(promise = 20, says = {
      "SEND; -9.",
      "SEND: the FARMER who, AT none from now on, makes most grow of all in the next n YEARS (1 .. 30), more than"
          + " else, of several the least; -9."})
  private static void p20_send_moreThanElse() {
    String text = "f000000;f010000;pr0;pw0;a00;a11;";
    Edges.taken(Due.landOf(text), "as much is not more, in 1", y -> y.send(1), Edges.NONE);
    Edges.taken(Due.landOf(text), "more, in 2", y -> y.send(2), 1);
    Edges.taken(Due.landOf("f303030;pf0;a00;"), "nothing either way", y -> y.send(30), Edges.NONE);
    Edges.taken(Due.landOf("f303030;pr0;a00;"), "who grows", y -> y.send(30), Edges.NONE);
  }

  @Edge(promise = 20, says = "of several the least; -9.")
  private static void p20_send_leastOfSeveral() {
    RotationOfFarmers x = Due.landOf("f010000;f010000;f000000;f000000;pr0;pr0;pw0;pw0;a02;a13;a20;a31;s2;");
    Edges.taken(x, "2 and 3 are alike", y -> y.send(2), 2);
    x.leaves(2);
    Edges.taken(x, "3 alone", y -> y.send(2), 3);
    x.leaves(3);
    Edges.taken(x, "who is at none is not sent", y -> y.send(2), Edges.NONE);
    Edges.taken(Due.landOf("f000000;f010000;pw0;pr0;a01;a10;"), "the first", y -> y.send(2), 0);
    Edges.taken(new RotationOfFarmers(), "without farmers", y -> y.send(1), Edges.NONE);
    Edges.taken(Due.landOf("f000000;f010000;pf0;pf0;pf0;pf0;pr0;pw0;a40;a51;"), "the last of six", y -> y.send(2), 5);
  }

  @Edge(promise = 20, says = "makes most grow of all")
  private static void p20_send_barnFull() {
    RotationOfFarmers x = Edges.fullBarn();
    x.turn(1, 0, 0);
    Due.tell(x, "a02;a11;h1001;s5;");
    Edges.taken(x, "he is still sent", y -> y.send(2), 1);
  }

  @Edge(promise = 20, says = {"-4 below 1;", "-6 30."})
  private static void p20_send_refused() {
    Edges.refused(Due.BELOW, "0", y -> y.send(0));
    Edges.refused(Due.BELOW, "least", y -> y.send(Edges.LEAST));
    Edges.refused(Due.ROOM, "31", y -> y.send(31));
    Edges.refused(Due.ROOM, "most", y -> y.send(Edges.MOST));
    Edges.refusedOf(Edges::empty, Due.BELOW, "0 without farmers", y -> y.send(0));
    Edges.refusedOf(Edges::empty, Due.ROOM, "31 without farmers", y -> y.send(31));
  }

  @Edge(promise = 21, says = {
      "CHANGE; -9.",
      "CHANGE: the two FARMERS (10 the lesser and the other) who, having changed their places now, make most grow"
          + " in the next n YEARS (1 .. 30), more than else, of several the first; -9."})
  private static void p21_change_moreThanElse() {
    RotationOfFarmers x = Due.landOf("f300000;f003000;pw0;pt0;a01;a10;s0;");
    Edges.taken(x, "more", y -> y.change(1), 1);
    Edges.taken(x, "more in 30", y -> y.change(30), 1);
    Due.tell(x, "a00;a11;");
    Edges.taken(x, "less", y -> y.change(1), Edges.NONE);
    Edges.taken(Due.landOf("f300000;f300000;pw0;pw0;a00;a11;"), "alike", y -> y.change(30), Edges.NONE);
    Edges.taken(new RotationOfFarmers(), "without farmers", y -> y.change(30), Edges.NONE);
    Edges.taken(Due.landOf("f300000;pw0;"), "one alone", y -> y.change(30), Edges.NONE);
    Edges.taken(Due.landOf("f300000;pf0;pw0;"), "both at none", y -> y.change(30), Edges.NONE);
  }

  @Edge(promise = 21, says = "the two FARMERS (10 the lesser and the other)")
  private static void p21_change_firstOfSeveralAndLast() {
    String six = "f300000;pf0;pf0;pf0;pf0;pf0;pf0;s0;";
    for (int a = 0; a < 6; a++) {
      for (int b = a + 1; b < 6; b++) {
        int pair = 10 * a + b;
        RotationOfFarmers x = Due.landOf(six);
        x.sits(a, 0);
        x.turn(b, 0, 0);
        Edges.taken(x, "who grows is " + b + ", at none", y -> y.change(1), pair);
        RotationOfFarmers z = Due.landOf(six);
        z.sits(b, 0);
        z.turn(a, 0, 0);
        Edges.taken(z, "who grows is " + a + ", at none", y -> y.change(1), pair);
      }
    }
    RotationOfFarmers x = Due.landOf(six);
    x.sits(2, 0);
    x.turn(0, 0, 0);
    x.turn(5, 0, 0);
    Edges.taken(x, "02 and 25 are alike: the first", y -> y.change(1), 2);
  }

  @Edge(promise = 21, says = "make most grow")
  private static void p21_change_barnFull() {
    RotationOfFarmers x = Edges.fullBarn();
    x.turn(1, 4, 0);
    Due.tell(x, "a10;");
    Edges.taken(x, "a fallow one and one of roots", y -> y.change(1), 1);
  }

  @Edge(promise = 21, says = {"-4 below 1;", "-6 30."})
  private static void p21_change_refused() {
    Edges.refused(Due.BELOW, "0", y -> y.change(0));
    Edges.refused(Due.BELOW, "least", y -> y.change(Edges.LEAST));
    Edges.refused(Due.ROOM, "31", y -> y.change(31));
    Edges.refused(Due.ROOM, "most", y -> y.change(Edges.MOST));
    Edges.refusedOf(Edges::empty, Due.BELOW, "0 without farmers", y -> y.change(0));
    Edges.refusedOf(Edges::empty, Due.ROOM, "31 without farmers", y -> y.change(31));
  }
}
