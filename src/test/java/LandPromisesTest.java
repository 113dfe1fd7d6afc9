/** Promises 1 to 12 and 37 to 39: what there is, how it is told and changed, and the years that go by. */
public final class LandPromisesTest {
  private static final int LEAST = Integer.MIN_VALUE;
  private static final int MOST = Integer.MAX_VALUE;
  private static final String SIX_KINDS = "f211907;pw1;pt2;pr3;pc4;pf5;pm6;";

  public static void main(String[] args) {
    newObject();
    letter();
    landThatComes();
    landWithFaultOfLetters();
    landWithFaultOfStatements();
    landWithFaultBringsNothing();
    farm();
    farmer();
    sits();
    leaves();
    hearts();
    steps();
    tires();
    turn();
    yearOfEachKind();
    yearAtTheEdgesOfHearts();
    yearOfTheTired();
    yearOfFarmsAlone();
    movingOn();
    barn();
    years();
    image();
    count();
    Due.end("LandPromisesTest");
  }

  /** Promise 1. */
  private static void newObject() {
    RotationOfFarmers x = new RotationOfFarmers();
    for (int what = 0; what < 8; what++) {
      Due.is("new: count " + what, x.count(what), what == 3 ? 1 : 0);
    }
    for (int what = 11; what <= 16; what++) {
      Due.is("new: count " + what, x.count(what), 0);
    }
    Due.refused(x, Due.STATE, "new: on", x::on);
  }

  /** Promise 2. */
  private static void letter() {
    RotationOfFarmers x = new RotationOfFarmers();
    Due.is("letter 0", x.letter(0), 1);
    Due.is("letter 255", x.letter(255), 2);
    Due.refused(x, Due.BELOW, "letter -1", () -> x.letter(-1));
    Due.refused(x, Due.BELOW, "letter least", () -> x.letter(LEAST));
    Due.refused(x, Due.ROOM, "letter 256", () -> x.letter(256));
    Due.refused(x, Due.ROOM, "letter most", () -> x.letter(MOST));
    for (int i = 3; i <= 96; i++) {
      Due.is("letter " + i, x.letter('f'), i);
    }
    Due.refused(x, Due.ROOM, "letter 97", () -> x.letter('f'));
    Due.refused(x, Due.BELOW, "letter -1 without room", () -> x.letter(-1));
  }

  /** Promise 3. */
  private static void landThatComes() {
    RotationOfFarmers x = new RotationOfFarmers();
    Due.is("all sorts of statements", Due.tell(x, "f201510;f010203;pw3;pm9;a00;a11;s2;h0230;o1;y02;"), 10);
    Due.is("farms", x.count(0), 2);
    Due.is("farmers", x.count(1), 2);
    Due.is("step", x.count(3), 2);
    Due.is("year", x.count(2), 2);
    Due.is("corn of a whig on 20, then 17", x.count(4), 18);
    Due.is("letters", x.count(7), 0);
    heartsAre("the whig's farm", x, 0, 14, 17, 30);
    heartsAre("the farm that lay alone", x, 1, 3, 4, 5);
    Due.is("who left", x.farmer(1, 3), Model.NONE);
    Due.is("more of it", Due.tell(x, "a10;"), 1);
    Due.is("who was there is none", x.farmer(0, 3), Model.NONE);
    Due.is("who sits there", x.farm(0, 4), 1);
    Due.is("his own is free", Due.tell(x, "a11;"), 1);
    Due.is("the farm he had", x.farm(0, 4), Model.NONE);
    Due.is("leaves though at none", Due.tell(x, "o0;"), 1);
    for (int k = 0; k < 6; k++) {
      RotationOfFarmers y = Due.landOf("p" + Model.LETTERS.charAt(k) + "7;");
      Due.is("kind of letter " + k, y.farmer(0, 0), k);
      Due.is("figure", y.farmer(0, 1), 7);
    }
    Due.is("six farms", Due.tell(new RotationOfFarmers(), "f000000;f303030;f000000;f000000;f000000;f000000;"), 6);
    Due.is("six farmers, sixty years", Due.tell(new RotationOfFarmers(), "pw0;pw1;pw2;pw3;pw4;pw9;s5;s0;y60;"), 9);
  }

  private static void landWithFaultOfLetters() {
    fault("", -1000);
    fault("x", -1000);
    fault("F000000;", -1000);
    fault(";", -1000);
    fault("f", -1001);
    fault("f20151", -1006);
    fault("f201510", -1007);
    fault("f201510x", -1007);
    fault("f2015100;", -1007);
    fault("f20151/;", -1006);
    fault("f20151:;", -1006);
    fault("px3;", -1001);
    fault("p3;", -1001);
    fault("pww;", -1002);
    fault("pw3;q", -1004);
    fault("pw3;p", -1005);
    fault("pw3;;", -1004);
    fault("a0;", -1002);
    fault("a000;", -1003);
    fault("o;", -1001);
    fault("o00;", -1002);
    fault("h000;", -1004);
    fault("h00000;", -1005);
    fault("s;", -1001);
    fault("s10;", -1002);
    fault("y1;", -1002);
    fault("y001;", -1003);
    fault("s9;x", -1003);
    fault("s9;s1", -1005);
    fault("y10;\u00ff", -1004);
    StringBuilder full = new StringBuilder();
    for (int i = 0; i < 31; i++) {
      full.append("s1;");
    }
    Due.is("93 letters", Due.tell(new RotationOfFarmers(), full.toString()), 31);
    Due.is("96 letters", Due.tell(new RotationOfFarmers(), full + "s2;"), 32);
    fault(full + "s2", -1095);
    fault(full + "a00", -1096);
  }

  private static void landWithFaultOfStatements() {
    fault("s6;", -2000);
    fault("pw3;s9;", -2004);
    fault("f310000;", -2000);
    fault("f003100;", -2000);
    fault("f000031;", -2000);
    fault("a00;pw1;f000000;", -2000);
    fault("pw1;a00;f000000;", -2004);
    fault("f000000;a00;pw1;", -2008);
    fault("pw1;f000000;a01;", -2012);
    fault("pw1;f000000;a10;", -2012);
    fault("o0;", -2000);
    fault("pw1;o1;", -2004);
    fault("h0000;", -2000);
    fault("f000000;h1000;", -2008);
    fault("f000000;h0300;", -2008);
    fault("f000000;h0031;", -2008);
    fault("y00;", -2000);
    fault("y61;", -2000);
    fault("s1;y99;s9;", -2003);
    fault("f000000;f000000;f000000;f000000;f000000;f000000;f000000;", -2048);
    fault("pw0;pw0;pw0;pw0;pw0;pw0;pw0;", -2024);
    RotationOfFarmers x = new RotationOfFarmers();
    for (int i = 0; i < 16; i++) {
      Due.is("sixty years more", Due.tell(x, "y60;"), 1);
    }
    Due.is("year 1000", Due.tell(x, "y40;"), -2000);
    Due.is("year 1000 by two", Due.tell(x, "s2;y39;y01;"), -2007);
    Due.is("year", x.count(2), 960);
    Due.is("year 999", Due.tell(x, "y39;"), 1);
    Due.is("year", x.count(2), 999);
    Due.is("one year more", Due.tell(x, "y01;"), -2000);
  }

  private static void landWithFaultBringsNothing() {
    RotationOfFarmers x = Due.landOf("f201510;pw3;a00;");
    String[] texts = {"f000000;pw1;o0;h0000;s3;y05;s6;", "f000000;pw1;o0;h0000;s3;y05;x"};
    for (String text : texts) {
      long[] before = Due.state(x);
      Due.isTrue("fault of " + text, Due.tell(x, text) < 0);
      Due.sameState("behind " + text, x, before);
    }
    for (int what = 11; what <= 16; what++) {
      Due.is("a fault is no refusal", x.count(what), 0);
    }
  }

  private static void fault(String text, int due) {
    RotationOfFarmers x = new RotationOfFarmers();
    Due.is("land of " + text, Due.tell(x, text), due);
    Due.is("letters behind " + text, x.count(7), 0);
    Due.is("farms behind " + text, x.count(0), 0);
    Due.is("farmers behind " + text, x.count(1), 0);
    Due.is("step behind " + text, x.count(3), 1);
  }

  private static void heartsAre(String what, RotationOfFarmers x, int farm, int first, int second, int third) {
    Due.is(what + ", sort 0", x.farm(farm, 0), first);
    Due.is(what + ", sort 1", x.farm(farm, 1), second);
    Due.is(what + ", sort 2", x.farm(farm, 2), third);
  }

  /** Promise 4. */
  private static void farm() {
    RotationOfFarmers x = Due.landOf("f201510;f010203;pw3;a01;");
    heartsAre("first farm", x, 0, 20, 15, 10);
    heartsAre("second farm", x, 1, 1, 2, 3);
    Due.is("green of the first", x.farm(0, 3), 45);
    Due.is("green of the second", x.farm(1, 3), 6);
    Due.is("nobody there", x.farm(0, 4), Model.NONE);
    Due.is("who is there", x.farm(1, 4), 0);
    Due.refused(x, Due.NOBODY, "farm 2", () -> x.farm(2, 0));
    Due.refused(x, Due.NOBODY, "farm -1", () -> x.farm(-1, 0));
    Due.refused(x, Due.NOBODY, "farm most", () -> x.farm(MOST, 0));
    Due.refused(x, Due.NOBODY, "farm least", () -> x.farm(LEAST, 0));
    Due.refused(x, Due.OTHER, "farm what 5", () -> x.farm(0, 5));
    Due.refused(x, Due.OTHER, "farm what -1", () -> x.farm(0, -1));
    Due.refused(x, Due.NOBODY, "farm both", () -> x.farm(2, 5));
  }

  /** Promise 5. */
  private static void farmer() {
    RotationOfFarmers fresh = Due.landOf(SIX_KINDS);
    int[] grows = {10, 9, 13, 4, 0, 0};
    int[] tires = {2, 1, 2, 1, 3, 4};
    for (int f = 0; f < 6; f++) {
      Due.is("kind", fresh.farmer(f, 0), f);
      Due.is("figure", fresh.farmer(f, 1), f + 1);
      Due.is("tired", fresh.farmer(f, 2), 0);
      Due.is("at none", fresh.farmer(f, 3), Model.NONE);
      Due.is("grows at none", fresh.farmer(f, 4), 0);
      Due.is("tires", fresh.farmer(f, 5), tires[f]);
    }
    RotationOfFarmers x = Due.landOf(SIX_KINDS);
    for (int f = 0; f < 6; f++) {
      x.sits(f, 0);
      Due.is("at the farm", x.farmer(f, 3), 0);
      x.tires(f, 9);
      Due.is("grows " + f, x.farmer(f, 4), grows[f]);
      x.tires(f, 10);
      Due.is("tired 10", x.farmer(f, 2), 10);
      Due.is("grows when tired 10", x.farmer(f, 4), 0);
      Due.is("tires, of his kind", x.farmer(f, 5), tires[f]);
    }
    Due.refused(fresh, Due.NOBODY, "farmer 6", () -> fresh.farmer(6, 0));
    Due.refused(fresh, Due.NOBODY, "farmer -1", () -> fresh.farmer(-1, 0));
    Due.refused(x, Due.OTHER, "farmer what 6", () -> x.farmer(5, 6));
    Due.refused(x, Due.OTHER, "farmer what -1", () -> x.farmer(0, -1));
    Due.refused(x, Due.NOBODY, "farmer both", () -> x.farmer(6, 6));
  }

  /** Promise 6. */
  private static void sits() {
    RotationOfFarmers x = Due.landOf("f201510;f010203;pw3;pt4;");
    Due.is("nobody was there", x.sits(0, 0), Model.NONE);
    Due.is("he himself was there", x.sits(0, 0), 0);
    Due.is("still there", x.farm(0, 4), 0);
    Due.is("the other was there", x.sits(1, 0), 0);
    Due.is("the other is at none", x.farmer(0, 3), Model.NONE);
    Due.is("nobody was at the second", x.sits(1, 1), Model.NONE);
    Due.is("the first is free", x.farm(0, 4), Model.NONE);
    Due.is("where he is", x.farmer(1, 3), 1);
    Due.refused(x, Due.NOBODY, "sits, no such farmer", () -> x.sits(2, 0));
    Due.refused(x, Due.NOBODY, "sits, farmer -1", () -> x.sits(-1, 0));
    Due.refused(x, Due.NOBODY, "sits, no such farm", () -> x.sits(0, 2));
    Due.refused(x, Due.NOBODY, "sits, farm -1", () -> x.sits(0, -1));
    Due.refused(x, Due.NOBODY, "sits, neither", () -> x.sits(2, 2));
  }

  /** Promise 7. */
  private static void leaves() {
    RotationOfFarmers x = Due.landOf("f201510;f010203;pw3;a01;");
    Due.is("where he was", x.leaves(0), 1);
    Due.is("where he is", x.farmer(0, 3), Model.NONE);
    Due.is("nobody there", x.farm(1, 4), Model.NONE);
    Due.refused(x, Due.STATE, "leaves again", () -> x.leaves(0));
    Due.refused(x, Due.NOBODY, "leaves, no such farmer", () -> x.leaves(1));
    Due.refused(x, Due.NOBODY, "leaves, farmer -1", () -> x.leaves(-1));
  }

  /** Promise 8. */
  private static void hearts() {
    RotationOfFarmers x = Due.landOf("f201510;f010203;");
    Due.is("heart becomes 30", x.hearts(0, 1, 30), 15);
    Due.is("heart becomes 0", x.hearts(0, 1, 0), 30);
    Due.is("heart of the second", x.hearts(1, 2, 9), 3);
    heartsAre("first", x, 0, 20, 0, 10);
    heartsAre("second", x, 1, 1, 2, 9);
    Due.refused(x, Due.NOBODY, "hearts, no such farm", () -> x.hearts(2, 0, 0));
    Due.refused(x, Due.NOBODY, "hearts, farm -1", () -> x.hearts(-1, 0, 0));
    Due.refused(x, Due.NOBODY, "hearts, sort 3", () -> x.hearts(0, 3, 0));
    Due.refused(x, Due.NOBODY, "hearts, sort -1", () -> x.hearts(1, -1, 0));
    Due.refused(x, Due.NOBODY, "hearts, sort 3 and below", () -> x.hearts(0, 3, -1));
    Due.refused(x, Due.BELOW, "hearts -1", () -> x.hearts(0, 0, -1));
    Due.refused(x, Due.ROOM, "hearts 31", () -> x.hearts(0, 0, 31));
  }

  /** Promise 9. */
  private static void steps() {
    RotationOfFarmers x = new RotationOfFarmers();
    Due.is("step 1 at first", x.steps(5), 1);
    Due.is("step was 5", x.steps(0), 5);
    Due.is("step is 0", x.count(3), 0);
    Due.refused(x, Due.BELOW, "steps -1", () -> x.steps(-1));
    Due.refused(x, Due.ROOM, "steps 6", () -> x.steps(6));
  }

  /** Promise 10. */
  private static void tires() {
    RotationOfFarmers x = Due.landOf("pw3;pt4;");
    Due.is("tired becomes 20", x.tires(1, 20), 0);
    Due.is("tired becomes 0", x.tires(1, 0), 20);
    Due.is("tired becomes 7", x.tires(1, 7), 0);
    Due.is("tired", x.farmer(1, 2), 7);
    Due.is("the other one", x.farmer(0, 2), 0);
    Due.refused(x, Due.NOBODY, "tires, no such farmer", () -> x.tires(2, 0));
    Due.refused(x, Due.NOBODY, "tires, farmer -1 and below", () -> x.tires(-1, -1));
    Due.refused(x, Due.BELOW, "tires -1", () -> x.tires(0, -1));
    Due.refused(x, Due.ROOM, "tires 21", () -> x.tires(0, 21));
  }

  /** Promise 11. */
  private static void turn() {
    RotationOfFarmers x = Due.landOf("pw3;pm4;");
    Due.is("a whig of 3 becomes mr ames of 9", x.turn(0, 5, 9), 3);
    Due.is("back", x.turn(0, 0, 0), 59);
    Due.is("the other", x.turn(1, 2, 1), 54);
    Due.is("kind", x.farmer(1, 0), 2);
    Due.is("figure", x.farmer(1, 1), 1);
    Due.refused(x, Due.NOBODY, "turn, no such farmer", () -> x.turn(2, 0, 0));
    Due.refused(x, Due.NOBODY, "turn, no such farmer and all", () -> x.turn(-1, 6, -1));
    Due.refused(x, Due.OTHER, "turn, kind 6", () -> x.turn(0, 6, 0));
    Due.refused(x, Due.OTHER, "turn, kind -1", () -> x.turn(0, -1, 0));
    Due.refused(x, Due.OTHER, "turn, kind 6 and below", () -> x.turn(0, 6, -1));
    Due.refused(x, Due.BELOW, "turn, figure -1", () -> x.turn(0, 0, -1));
    Due.refused(x, Due.ROOM, "turn, figure 10", () -> x.turn(0, 0, 10));
  }

  /** Promise 12: a year of each kind, all from 20, 15, 10 with figure 7. */
  private static void yearOfEachKind() {
    int[][] due = {
      {10, 17, 16, 10, 2}, {7, 20, 12, 11, 1}, {13, 21, 15, 6, 2}, {3, 23, 14, 10, 1}, {0, 23, 18, 13, 3},
      {0, 25, 18, 13, 4}
    };
    for (int kind = 0; kind < due.length; kind++) {
      RotationOfFarmers x = Due.landOf("f201510;p" + Model.LETTERS.charAt(kind) + "7;a00;s0;");
      Due.is("a year of kind " + kind, x.years(1), due[kind][0]);
      heartsAre("behind a year of kind " + kind, x, 0, due[kind][1], due[kind][2], due[kind][3]);
      Due.is("tired by kind " + kind, x.farmer(0, 2), due[kind][4]);
      Due.is("year", x.count(2), 1);
    }
    int[] moreByFigure = {1, 1, 1, 2, 2, 2, 3, 3, 3, 4};
    for (int figure = 0; figure < moreByFigure.length; figure++) {
      int more = moreByFigure[figure];
      RotationOfFarmers x = Due.landOf("f101010;f101010;pf" + figure + ";pm" + figure + ";a00;a11;s0;y01;");
      heartsAre("a fallow of " + figure, x, 0, 10 + more, 10 + more, 10 + more);
      heartsAre("mr ames of " + figure, x, 1, 12 + more, 10 + more, 10 + more);
    }
  }

  private static void yearAtTheEdgesOfHearts() {
    RotationOfFarmers x = Due.landOf("f023000;f000230;f300003;f302900;pw0;pt0;pr0;pm9;a00;a11;a22;a33;s0;");
    Due.is("corn", x.years(1), 1 + 1 + 18 + 0);
    heartsAre("a whig's", x, 0, 0, 30, 0);
    heartsAre("a tory's", x, 1, 0, 0, 30);
    heartsAre("a roots'", x, 2, 30, 0, 0);
    heartsAre("mr ames's", x, 3, 30, 30, 4);
  }

  private static void yearOfTheTired() {
    RotationOfFarmers x = Due.landOf("f201510;f201510;f201510;pw0;pm0;pw0;pt0;pt0;pt0;a00;a11;a22;s0;");
    int[] tired = {10, 20, 9, 12, 5, 3};
    int[] then = {5, 15, 11, 7, 0, 0};
    for (int f = 0; f < 6; f++) {
      x.tires(f, tired[f]);
    }
    Due.is("one grows", x.years(1), 10);
    heartsAre("of who was tired 10", x, 0, 20, 15, 10);
    heartsAre("of who was tired 20", x, 1, 20, 15, 10);
    heartsAre("of who was tired 9", x, 2, 17, 16, 10);
    for (int f = 0; f < 6; f++) {
      Due.is("tired behind " + tired[f], x.farmer(f, 2), then[f]);
    }
  }

  private static void yearOfFarmsAlone() {
    RotationOfFarmers x = Due.landOf("f302900;f201510;pw0;a01;s1;y01;");
    heartsAre("alone", x, 0, 30, 30, 1);
    heartsAre("alone behind the moving only", x, 1, 17, 16, 10);
    Due.is("who moved", x.farmer(0, 3), 0);
    Due.is("the second is free", x.farm(1, 4), Model.NONE);
  }

  private static void movingOn() {
    int[][] due = {{0, 1, 2}, {1, 2, 0}, {2, 0, 1}, {0, 1, 2}, {1, 2, 0}, {2, 0, 1}};
    for (int step = 0; step < due.length; step++) {
      RotationOfFarmers x = Due.landOf("f000000;f000000;f000000;pw0;pt0;pr0;pc0;a00;a11;a22;s" + step + ";y01;");
      for (int f = 0; f < 3; f++) {
        Due.is("farmer " + f + " by step " + step, x.farmer(f, 3), due[step][f]);
        Due.is("farm of farmer " + f, x.farm(due[step][f], 4), f);
      }
      Due.is("who is at none stays", x.farmer(3, 3), Model.NONE);
    }
  }

  /** Six of roots at 18 each: five years' work, a rest, then five of every seven. */
  private static void barn() {
    RotationOfFarmers x = Due.landOf("f303030;f303030;f303030;f303030;f303030;f303030;pr0;pr0;pr0;pr0;pr0;pr0;s0;");
    Due.is("they sit", Due.tell(x, "a00;a11;a22;a33;a44;a55;"), 6);
    Due.is("60 years", x.years(60), 44 * 108);
    Due.is("120 years", x.years(60), 87 * 108);
    Due.is("crop of what comes has no end", x.crop(-1, 60), 43 * 108);
    Due.is("the barn in thought has", x.barnThen(60), 9999);
    Due.is("180 years", x.years(60), 9999);
    Due.is("barn", x.count(4), 9999);
    Due.is("a year more", x.years(1), 9999);
  }

  private static void years() {
    RotationOfFarmers x = Due.landOf("f201510;pw3;a00;");
    Due.refused(x, Due.BELOW, "years 0", () -> x.years(0));
    Due.refused(x, Due.BELOW, "years least", () -> x.years(LEAST));
    Due.refused(x, Due.ROOM, "years 61", () -> x.years(61));
    Due.refused(x, Due.ROOM, "years most", () -> x.years(MOST));
    Due.is("three years", x.years(3), 10 + 8 + 7);
    Due.is("year", x.count(2), 3);
    for (int i = 0; i < 16; i++) {
      Due.isTrue("sixty years", x.years(60) > 0);
    }
    Due.is("year", x.count(2), 963);
    Due.refused(x, Due.ROOM, "years 37, to 1000", () -> x.years(37));
    Due.isTrue("years 36, to 999", x.years(36) > 0);
    Due.is("year", x.count(2), 999);
    Due.refused(x, Due.ROOM, "years 1, to 1000", () -> x.years(1));
    Due.refused(x, Due.BELOW, "years 0 at 999", () -> x.years(0));
  }

  /** Promises 37 and 38. */
  private static void image() {
    RotationOfFarmers x = Due.landOf("f201510;f010203;pw3;pt5;a00;a11;s2;y04;");
    Due.refused(x, Due.STATE, "on without an image", x::on);
    x.tires(1, 17);
    long[] then = Due.state(x);
    Due.is("image", x.image(), 4);
    Due.sameState("behind the image", x, then);
    Due.is("much else", Due.tell(x, "f111111;pm9;o0;a12;h0005;s5;y30;"), 7);
    x.turn(0, 4, 4);
    Due.is("on", x.on(), 4);
    Due.sameState("behind on", x, then);
    Due.is("a year more", x.years(1), x.count(4));
    Due.is("on once more", x.on(), 4);
    Due.sameState("behind on once more", x, then);
    x.letter('s');
    x.row(7);
    Due.refused(x, Due.OTHER, "lost 2", () -> x.lost(2));
    Due.is("on again", x.on(), 4);
    Due.is("letters are no part of it", x.count(7), 1);
    Due.is("the row is no part of it", x.count(6), 1);
    Due.is("refusals are no part of it", x.count(12), 1);
    Due.is("refusals are no part of it", x.count(13), 1);
    x.years(2);
    Due.is("another image", x.image(), 6);
    x.years(3);
    Due.is("on from the last one", x.on(), 6);
    Due.is("a farm that comes behind on", Due.tell(x, "1;f090807;pm2;"), 3);
    heartsAre("it", x, 2, 9, 8, 7);
    Due.is("its farmer is fresh", x.farmer(2, 2), 0);
    Due.is("its farmer is at none", x.farmer(2, 3), Model.NONE);
  }

  /** Promise 39. */
  private static void count() {
    RotationOfFarmers x = Due.landOf("f201510;f010203;f000000;pw3;pt5;a00;a11;s4;y01;");
    x.row(3);
    x.row(4);
    x.letter('y');
    Due.is("farms", x.count(0), 3);
    Due.is("farmers", x.count(1), 2);
    Due.is("year", x.count(2), 1);
    Due.is("step", x.count(3), 4);
    Due.is("barn", x.count(4), 11);
    Due.is("green of all", x.count(5), 43 + 5 + 3);
    Due.is("row", x.count(6), 2);
    Due.is("letters", x.count(7), 1);
    x.farm(3, 0);
    x.lost(9);
    x.lost(9);
    x.on();
    x.row(-1);
    x.row(100);
    x.row(100);
    x.row(100);
    int[] due = {1, 2, 1, 1, 0, 3};
    for (int i = 0; i < due.length; i++) {
      Due.is("refusals " + -(i + 1), x.count(11 + i), due[i]);
    }
    int[] others = {-1, 8, 9, 10, 17, 18, LEAST, MOST};
    for (int what : others) {
      Due.is("count " + what, x.count(what), Model.NONE);
    }
    Due.is("that is no refusal", x.count(12), 2);
  }
}
