/** Boundary cases of promises 22 to 29: who had better sit where, what settles, rounds, bits, and two who rest. */
public final class EdgesOfSeatsTest {
  public static void main(String[] args) {
    Edges.run(EdgesOfSeatsTest.class);
  }

  private static void nextIs(String what, RotationOfFarmers x, int most, int... seats) {
    Edges.taken(x, "next of " + what, y -> y.next(-1), most);
    Due.is("farmers of " + what, x.count(1), seats.length);
    for (int f = 0; f < seats.length; f++) {
      int farmer = f;
      Edges.taken(x, "next of " + what + ", farmer " + f, y -> y.next(farmer), seats[f]);
    }
  }

  @Edge(promise = 22, says = {
      "NEXT: how much (farmer -1), where he sits (-9).",
      "NEXT: FARMERS set on FARMS anew so that most grows of all next YEAR (each on one at most, one on each at"
          + " most): how much;"})
  private static void p22_next_none() {
    nextIs("nothing at all", new RotationOfFarmers(), 0);
    nextIs("farms alone", Due.landOf("f303030;f303030;"), 0);
    nextIs("farmers alone", Due.landOf("pr0;pr0;"), 0, Edges.NONE, Edges.NONE);
    nextIs("one on one", Due.landOf("f303030;pr0;"), 18, 0);
  }

  @Edge(promise = 22, says = "where a FARMER sits in the first such (by FARMERS, the least FARM, none last); -9.")
  private static void p22_next_firstOfAlike() {
    nextIs("two alike", Due.landOf("f200000;f200000;pw0;pw0;a01;"), 20, 0, 1);
    nextIs("two alike on one", Due.landOf("f200000;pw0;pw0;"), 10, 0, Edges.NONE);
    nextIs("the first must be none", Due.landOf("f200000;pw0;pr0;"), 13, Edges.NONE, 0);
    nextIs("who grows nothing sits too", Due.landOf("f000000;f000000;pf0;pf0;"), 0, 0, 1);
    nextIs("who grows nothing makes way", Due.landOf("f200000;f000000;pf0;pw0;"), 10, 1, 0);
    nextIs("who grows nothing, without a farm left", Due.landOf("f200000;pf0;pw0;"), 10, Edges.NONE, 0);
    nextIs("one on three alike", Due.landOf("f200000;f200000;f200000;pw0;"), 10, 0);
    nextIs("the last by 2 of heart", Due.landOf("f200000;f210000;f220000;pw0;"), 11, 2);
  }

  @Edge(promise = 22, says = "(each on one at most, one on each at most)")
  private static void p22_next_six() {
    RotationOfFarmers x = Edges.full();
    nextIs("six", x, 7 + 9 + 13 + 3 + 0 + 0, 3, 4, 5, 2, 0, 1);
    Due.is("where they are stays", x.farmer(0, 3), 0);
    RotationOfFarmers alike = Due.landOf("f303030;f303030;f303030;f303030;f303030;f303030;pr0;pr0;pr0;pr0;pr0;pr0;");
    nextIs("six alike", alike, 6 * 18, 0, 1, 2, 3, 4, 5);
    RotationOfFarmers one = Due.landOf("f303030;pw0;pw0;pw0;pw0;pw0;pr0;");
    nextIs("six for one", one, 18, Edges.NONE, Edges.NONE, Edges.NONE, Edges.NONE, Edges.NONE, 0);
  }

  @Edge(promise = 22, says = {"most grows of all next YEAR", "Who is TIRED 10 or more GROWS nothing"})
  private static void p22_next_worn() {
    RotationOfFarmers x = Due.landOf("f200000;f300000;pw0;pw0;");
    x.tires(0, 9);
    nextIs("tired 9", x, 25, 0, 1);
    x.tires(0, 10);
    nextIs("tired 10", x, 15, 0, 1);
    x.tires(1, 10);
    nextIs("both", x, 0, 0, 1);
  }

  @Edge(promise = 22, says = "NEXT: FARMERS set on FARMS anew so that most grows of all next YEAR")
  private static void p22_next_asManyAsThereAre() {
    RotationOfFarmers x = new RotationOfFarmers();
    x.image();
    Due.is("six and six", Due.tell(x, "f303030;f303030;f303030;f303030;f303030;f303030;pr0;pr0;pr0;pr0;pr0;pr0;"), 12);
    nextIs("six", x, 6 * 18, 0, 1, 2, 3, 4, 5);
    x.on();
    nextIs("none again", x, 0);
    Due.is("one and one", Due.tell(x, "f200000;pw0;"), 2);
    nextIs("one", x, 10, 0);
    Due.is("and a farm more", Due.tell(x, "f300000;"), 1);
    nextIs("one on two", x, 15, 1);
  }

  @Edge(promise = 22, says = "-1.")
  private static void p22_next_refused() {
    Edges.refused(Due.NOBODY, "-2", y -> y.next(-2));
    Edges.refused(Due.NOBODY, "farmer 3 of three", y -> y.next(3));
    Edges.refused(Due.NOBODY, "-9", y -> y.next(Edges.NONE));
    Edges.refused(Due.NOBODY, "least", y -> y.next(Edges.LEAST));
    Edges.refused(Due.NOBODY, "most", y -> y.next(Edges.MOST));
    Edges.refusedOf(Edges::empty, Due.NOBODY, "farmer 0 of none", y -> y.next(0));
    Edges.refusedOf(Edges::full, Due.NOBODY, "farmer 6 of six", y -> y.next(6));
  }

  @Edge(promise = 23, says = {
      "FEED: the KIND (what 0), that GREEN (1).",
      "FEED: the KIND of a FARMER, with FIGURE 9, TIRED 0, who, put on a told FARM now (who is there away), makes"
          + " it GREENEST behind one YEAR, of several the least; that GREEN."})
  private static void p23_feed() {
    String[] farms = {"f000000;", "f303030;", "f300000;", "f260000;", "f250000;", "f003030;", "f302929;", "f252530;"};
    int[] kinds = {5, 4, 4, 4, 5, 5, 4, 5};
    int[] greens = {6 + 4 + 4, 90, 30 + 4 + 4, 30 + 4 + 4, 30 + 4 + 4, 6 + 60, 90, 30 + 29 + 30};
    for (int i = 0; i < farms.length; i++) {
      RotationOfFarmers x = Due.landOf("f101010;" + farms[i]);
      int kind = kinds[i];
      int green = greens[i];
      Edges.taken(x, "kind for " + farms[i], y -> y.feed(1, 0), kind);
      Edges.taken(x, "green of " + farms[i], y -> y.feed(1, 1), green);
    }
  }

  @Edge(promise = 23, says = "(who is there away)")
  private static void p23_feed_whoIsThereAway() {
    RotationOfFarmers x = Due.landOf("f101010;f101010;pw0;pm9;a00;a11;");
    x.tires(0, 20);
    x.tires(1, 20);
    for (int f = 0; f < 2; f++) {
      int farm = f;
      Edges.taken(x, "kind", y -> y.feed(farm, 0), 5);
      Edges.taken(x, "green", y -> y.feed(farm, 1), 16 + 14 + 14);
      Due.is("who is there stays", x.farm(f, 4), f);
    }
  }

  @Edge(promise = 23, says = "FEED: the KIND (what 0), that GREEN (1).")
  private static void p23_feed_sixFarms() {
    RotationOfFarmers x = Edges.full();
    for (int f = 0; f < 6; f++) {
      int farm = f;
      Edges.taken(x, "kind for " + f, y -> y.feed(farm, 0), 5);
      Edges.taken(x, "green of " + f, y -> y.feed(farm, 1), 18 + 9 * f + 6 + 4 + 4);
    }
  }

  @Edge(promise = 23, says = {"-1;", "-2."})
  private static void p23_feed_refused() {
    Edges.refused(Due.NOBODY, "farm -1", y -> y.feed(-1, 0));
    Edges.refused(Due.NOBODY, "farm 3 of three", y -> y.feed(3, 0));
    Edges.refused(Due.OTHER, "what -1", y -> y.feed(0, -1));
    Edges.refused(Due.OTHER, "what 2", y -> y.feed(2, 2));
    Edges.refused(Due.OTHER, "what most", y -> y.feed(0, Edges.MOST));
    Edges.refused(Due.NOBODY, "farm 3, what 2: nobody is told", y -> y.feed(3, 2));
    Edges.refused(Due.NOBODY, "farm -1, what -1: nobody is told", y -> y.feed(-1, -1));
    Edges.refusedOf(Edges::empty, Due.NOBODY, "farm 0 of none", y -> y.feed(0, 0));
  }

  @Edge(promise = 24, says = {
      "SETTLES; -9.",
      "SETTLES: the first n (0 .. 60) behind which no HEART, nobody's TIRED changes in a YEAR; -9."})
  private static void p24_settles() {
    Edges.taken(new RotationOfFarmers(), "nothing at all", RotationOfFarmers::settles, 0);
    Edges.taken(Due.landOf("f303030;"), "a full farm", RotationOfFarmers::settles, 0);
    Edges.taken(Due.landOf("f303030;f303029;"), "full but for one", RotationOfFarmers::settles, 1);
    Edges.taken(Due.landOf("f293030;f303030;"), "full but for the first", RotationOfFarmers::settles, 1);
    Edges.taken(Due.landOf("f000000;"), "an empty farm", RotationOfFarmers::settles, 30);
    RotationOfFarmers six = Due.landOf("f303030;f303030;f303030;f303030;f303030;f303030;pw0;pt0;pr0;pc0;pf0;pm0;");
    Edges.taken(six, "six full farms, six at none", RotationOfFarmers::settles, 0);
    six.tires(5, 1);
    Edges.taken(six, "the last one rests", RotationOfFarmers::settles, 1);
    six.hearts(5, 2, 28);
    Edges.taken(six, "the last heart grows", RotationOfFarmers::settles, 2);
    Edges.taken(Due.landOf("f303030;pw0;a00;"), "who works", RotationOfFarmers::settles, Edges.NONE);
    Edges.taken(Due.landOf("f303030;pf9;a00;"), "who feeds", RotationOfFarmers::settles, Edges.NONE);
    int[] tired = {0, 1, 5, 6, 10, 11, 15, 16, 20};
    int[] due = {0, 1, 1, 2, 2, 3, 3, 4, 4};
    for (int i = 0; i < tired.length; i++) {
      RotationOfFarmers x = Due.landOf("f303030;pw0;");
      x.tires(0, tired[i]);
      int years = due[i];
      Edges.taken(x, "at none, tired " + tired[i], RotationOfFarmers::settles, years);
    }
    RotationOfFarmers both = Due.landOf("f302730;pw0;");
    both.tires(0, 20);
    Edges.taken(both, "the later of both", RotationOfFarmers::settles, 4);
    both.hearts(0, 1, 20);
    Edges.taken(both, "the later of both", RotationOfFarmers::settles, 10);
  }

  @Edge(promise = 25, says = {
      "ROUND; -9.",
      "ROUND: behind how many YEARS (1 .. 60) all FARMERS are where they are now first; -9."})
  private static void p25_round() {
    Edges.taken(new RotationOfFarmers(), "nothing at all", RotationOfFarmers::round, 1);
    Edges.taken(Due.landOf("f000000;pw0;"), "at none", RotationOfFarmers::round, 1);
    int[][] due = {{1, 1, 1, 1, 1, 1}, {1, 2, 1, 2, 1, 2}, {1, 3, 3, 1, 3, 3}, {1, 4, 2, 4, 1, 4}, {1, 5, 5, 5, 5, 1},
        {1, 6, 3, 2, 3, 6}};
    for (int farms = 1; farms <= 6; farms++) {
      for (int step = 0; step <= 5; step++) {
        RotationOfFarmers x = Due.landOf("f000000;".repeat(farms) + "pw0;pw0;a0" + (farms - 1) + ";s" + step + ";");
        int years = due[farms - 1][step];
        Edges.taken(x, farms + " farms by step " + step, RotationOfFarmers::round, years);
      }
    }
    RotationOfFarmers full = Edges.full();
    Edges.taken(full, "six of six", RotationOfFarmers::round, 6);
    Due.is("year", full.count(2), 0);
  }

  @Edge(promise = 26, says = {
      "FREE (what 0), IDLE (1), WORN (2), bits.",
      "FREE: FARMS (bits) without a FARMER; IDLE: FARMERS (bits) AT none. WORN: FARMERS (bits) TIRED 10 or more."})
  private static void p26_free_noneAndAll() {
    RotationOfFarmers x = Edges.full();
    Edges.taken(x, "no farm free", y -> y.free(0), 0);
    Edges.taken(x, "no farmer idle", y -> y.free(1), 0);
    Edges.taken(x, "no farmer worn", y -> y.free(2), 0);
    for (int f = 0; f < 6; f++) {
      x.leaves(f);
      x.tires(f, 10);
      int bits = (2 << f) - 1;
      Due.is("free up to " + f, x.free(0), bits);
      Due.is("idle up to " + f, x.free(1), bits);
      Due.is("worn up to " + f, x.free(2), bits);
    }
    x.tires(0, 0);
    x.sits(5, 3);
    Edges.taken(x, "all farms but 3", y -> y.free(0), 63 - 8);
    Edges.taken(x, "all farmers but 5", y -> y.free(1), 63 - 32);
    Edges.taken(x, "all farmers but 0", y -> y.free(2), 63 - 1);
    for (int what = 0; what < 3; what++) {
      int w = what;
      Edges.taken(new RotationOfFarmers(), "nothing at all, what " + what, y -> y.free(w), 0);
    }
  }

  @Edge(promise = 26, says = "WORN: FARMERS (bits) TIRED 10 or more.")
  private static void p26_free_worn9And10() {
    RotationOfFarmers x = Edges.full();
    x.tires(1, 9);
    x.tires(2, 10);
    x.tires(3, 11);
    x.tires(5, 20);
    Edges.taken(x, "worn", y -> y.free(2), 4 + 8 + 32);
    Edges.taken(x, "who is worn is not idle", y -> y.free(1), 0);
  }

  @Edge(promise = 26, says = "-2.")
  private static void p26_free_refused() {
    Edges.refused(Due.OTHER, "what -1", y -> y.free(-1));
    Edges.refused(Due.OTHER, "what 3", y -> y.free(3));
    Edges.refused(Due.OTHER, "what least", y -> y.free(Edges.LEAST));
    Edges.refused(Due.OTHER, "what most", y -> y.free(Edges.MOST));
    Edges.refusedOf(Edges::empty, Due.OTHER, "what 3 of nothing", y -> y.free(3));
  }

  @Edge(promise = 27, says = {
      "IN HEART.",
      "IN HEART: behind how many YEARS one behind the other, from now (0) on, all SORTS of all FARMS are above 0"
          + " (0 .. 61: as many of 0 .. 60 as there are till it is not so first)."})
  private static void p27_inHeart() {
    Edges.taken(new RotationOfFarmers(), "nothing at all", RotationOfFarmers::inHeart, 61);
    Edges.taken(Due.landOf("f010101;"), "never lost", RotationOfFarmers::inHeart, 61);
    Edges.taken(Due.landOf("f010101;f303000;"), "lost now", RotationOfFarmers::inHeart, 0);
    Edges.taken(Due.landOf("f303004;pr0;a00;"), "lost behind 1", RotationOfFarmers::inHeart, 1);
    Edges.taken(Due.landOf("f303005;pr0;a00;"), "lost behind 2", RotationOfFarmers::inHeart, 2);
    Edges.taken(Due.landOf("f003030;pc0;a00;"), "lost now, not then", RotationOfFarmers::inHeart, 0);
    String late = "f062329;f202805;f262113;pt1;a00;s1;";
    Edges.taken(Due.landOf(late + "y01;"), "lost behind 60", RotationOfFarmers::inHeart, 60);
    Edges.taken(Due.landOf(late), "lost behind 61", RotationOfFarmers::inHeart, 61);
  }

  @Edge(promise = 28, says = {"EVEN.", "EVEN: the most GREEN of FARMS less the least (0 without)."})
  private static void p28_even() {
    Edges.taken(new RotationOfFarmers(), "without", RotationOfFarmers::even, 0);
    Edges.taken(Due.landOf("f303030;"), "one", RotationOfFarmers::even, 0);
    Edges.taken(Due.landOf("f303030;f303030;"), "alike", RotationOfFarmers::even, 0);
    Edges.taken(Due.landOf("f000000;f303030;"), "90 and 0", RotationOfFarmers::even, 90);
    Edges.taken(Due.landOf("f303030;f000000;"), "0 and 90", RotationOfFarmers::even, 90);
    Edges.taken(Due.landOf("f000001;f000000;f000001;"), "1 and 0", RotationOfFarmers::even, 1);
    Edges.taken(Edges.full(), "six", RotationOfFarmers::even, 63 - 18);
  }

  @Edge(promise = 29, says = {
      "TWO; -9.",
      "TWO FARMERS, each rests now (1: AT none from now on) or not (0): each wants most of what he GROWS in the"
          + " next n YEARS (1 .. 30), less what he is TIRED then: the first pair (10 the first's and the other's) by"
          + " which neither has more by another one alone; -9."})
  private static void p29_two_pairs() {
    RotationOfFarmers x = Due.landOf("f202020;f202020;f202020;pw0;pf0;pw0;pm0;a00;a11;a22;s0;");
    Edges.taken(x, "both stay, in 1", y -> y.two(0, 2, 1), 0);
    Edges.taken(x, "both stay, in 30", y -> y.two(2, 0, 30), 0);
    Edges.taken(x, "the other rests", y -> y.two(0, 1, 1), 1);
    Edges.taken(x, "the first rests", y -> y.two(1, 0, 1), 10);
    x.sits(3, 0);
    Edges.taken(x, "both rest, in 1", y -> y.two(3, 1, 1), 11);
    Edges.taken(x, "both rest, in 30", y -> y.two(1, 3, 30), 11);
    Edges.taken(x, "who is at none has alike: the first", y -> y.two(0, 2, 1), 0);
    Due.is("they are where they were", x.free(1), 1);
    Edges.taken(Edges.full(), "the last two of six, in 1", y -> y.two(5, 4, 1), 11);
    Edges.taken(Edges.full(), "the first and the last of six, in 1", y -> y.two(0, 5, 1), 1);
  }

  @Edge(promise = 29, says =
      "the first pair (10 the first's and the other's) by which neither has more by another one alone; -9.")
  private static void p29_two_alikeIsNotMore() {
    RotationOfFarmers x = Due.landOf("f040000;f020000;pw0;pw0;a00;a11;s0;");
    Edges.taken(x, "2 corn less 2 is as none", y -> y.two(0, 1, 1), 1);
    x.hearts(1, 0, 4);
    Edges.taken(x, "both alike: the first pair", y -> y.two(0, 1, 1), 0);
    x.hearts(0, 0, 3);
    Edges.taken(x, "1 corn less 2 is less", y -> y.two(0, 1, 1), 10);
    x.tires(0, 5);
    Edges.taken(x, "1 corn less 7 is less than 0", y -> y.two(0, 1, 1), 10);
    Edges.taken(Due.landOf("pw0;pw0;"), "both at none", y -> y.two(1, 0, 30), 0);
    Edges.taken(Due.landOf("f000102;f030303;pc3;pw3;a00;a11;s1;"), "no such pair", y -> y.two(0, 1, 19), Edges.NONE);
  }

  @Edge(promise = 29, says =
      "each wants most of what he GROWS in the next n YEARS (1 .. 30), less what he is TIRED then:")
  private static void p29_two_lessWhatHeIsTiredThen() {
    RotationOfFarmers x = Due.landOf("f202020;f202020;pw0;pf0;a00;a11;s0;");
    x.tires(0, 9);
    Edges.taken(x, "10 corn less 11 is more than none less 4", y -> y.two(0, 1, 1), 1);
    Edges.taken(x, "told the other way", y -> y.two(1, 0, 1), 10);
    x.hearts(0, 0, 14);
    Edges.taken(x, "7 corn less 11 is as none less 4", y -> y.two(0, 1, 1), 1);
    x.hearts(0, 0, 13);
    Edges.taken(x, "6 corn less 11 is less than none less 4", y -> y.two(0, 1, 1), 11);
    x.tires(1, 10);
    Edges.taken(x, "who is worn rests either way", y -> y.two(0, 1, 1), 10);
    x.turn(1, 0, 0);
    x.tires(1, 9);
    x.hearts(1, 0, 30);
    Edges.taken(x, "the other stays", y -> y.two(0, 1, 1), 10);
    Edges.taken(x, "told the other way", y -> y.two(1, 0, 1), 1);
    Due.is("tired as he was", x.farmer(0, 2), 9);
  }

  @Edge(promise = 29, says = {"-1 either (one twice, too);", "-4 below 1;", "-6 30."})
  private static void p29_two_refused() {
    Edges.refused(Due.NOBODY, "first -1", y -> y.two(-1, 0, 1));
    Edges.refused(Due.NOBODY, "first 3 of three", y -> y.two(3, 0, 1));
    Edges.refused(Due.NOBODY, "other -1", y -> y.two(0, -1, 1));
    Edges.refused(Due.NOBODY, "other 3 of three", y -> y.two(0, 3, 1));
    Edges.refused(Due.NOBODY, "0 twice", y -> y.two(0, 0, 1));
    Edges.refused(Due.NOBODY, "2 twice", y -> y.two(2, 2, 30));
    Edges.refused(Due.NOBODY, "one who is not there twice: once", y -> y.two(3, 3, 1));
    Edges.refused(Due.BELOW, "0", y -> y.two(0, 1, 0));
    Edges.refused(Due.BELOW, "least", y -> y.two(0, 1, Edges.LEAST));
    Edges.refused(Due.ROOM, "31", y -> y.two(0, 1, 31));
    Edges.refused(Due.ROOM, "most", y -> y.two(0, 1, Edges.MOST));
    Edges.refused(Due.NOBODY, "one twice, 0: nobody is told", y -> y.two(1, 1, 0));
    Edges.refused(Due.NOBODY, "other 3, 31: nobody is told", y -> y.two(0, 3, 31));
    Edges.refusedOf(Edges::empty, Due.NOBODY, "of none", y -> y.two(0, 1, 1));
    Edges.refusedOf(() -> Due.landOf("pw0;"), Due.NOBODY, "of one", y -> y.two(0, 1, 1));
  }
}
