/** Boundary cases of promises 1 to 3: a new object, letters, and the land that they tell. */
public final class EdgesOfTellingTest {
  private static final String SIX_FARMS = "f000000;f000000;f000000;f000000;f000000;f000000;";
  private static final String SIX_FARMERS = "pw0;pw0;pw0;pw0;pw0;pw0;";

  public static void main(String[] args) {
    Edges.run(EdgesOfTellingTest.class);
  }

  private static void fault(String text, int due) {
    faultIn(new RotationOfFarmers(), text, due);
  }

  /** A fault leaves no letters, is no refusal, and leaves the land as it was. */
  private static void faultIn(RotationOfFarmers x, String text, int due) {
    long[] before = Due.state(x);
    int[] refusals = Due.refusals(x);
    Due.is("land of \"" + text + "\"", Due.tell(x, text), due);
    Due.sameState("behind the fault of \"" + text + "\"", x, before);
    for (int i = 1; i <= 6; i++) {
      Due.is("refusals " + -i + " behind \"" + text + "\"", x.count(10 + i), refusals[i]);
    }
  }

  private static void faultBehind(String ahead, String text, int due) {
    faultIn(Due.landOf(ahead), text, due);
  }

  private static RotationOfFarmers comes(String text, int statements) {
    RotationOfFarmers x = new RotationOfFarmers();
    Due.is("land of \"" + text + "\"", Due.tell(x, text), statements);
    Due.is("letters behind \"" + text + "\"", x.count(7), 0);
    return x;
  }

  private static String times(String statement, int n) {
    return statement.repeat(n);
  }

  @Edge(promise = 1, says = "No FARMS, no FARMERS, STEP 1.")
  private static void p01_new_noFarms() {
    RotationOfFarmers x = new RotationOfFarmers();
    Edges.taken(x, "count of farms", y -> y.count(0), 0);
    Edges.taken(x, "green of all farms", y -> y.count(5), 0);
    Edges.taken(x, "farms without a farmer", y -> y.free(0), 0);
    Edges.refusedOf(Edges::empty, Due.NOBODY, "farm 0 of none", y -> y.farm(0, 0));
  }

  @Edge(promise = 1, says = "No FARMS, no FARMERS, STEP 1.")
  private static void p01_new_noFarmers() {
    RotationOfFarmers x = new RotationOfFarmers();
    Edges.taken(x, "count of farmers", y -> y.count(1), 0);
    Edges.taken(x, "farmers at none", y -> y.free(1), 0);
    Edges.taken(x, "farmers worn", y -> y.free(2), 0);
    Edges.refusedOf(Edges::empty, Due.NOBODY, "farmer 0 of none", y -> y.farmer(0, 0));
  }

  @Edge(promise = 1, says = {"No FARMS, no FARMERS, STEP 1.", "STEP (0 .. 5; 1 at first)."})
  private static void p01_new_step1() {
    Edges.taken(new RotationOfFarmers(), "step", y -> y.count(3), 1);
    Edges.taken(new RotationOfFarmers(), "step that was", y -> y.steps(4), 1);
  }

  @Edge(promise = 1, says = {"BARN (corn, 0 .. 9999; 0 at first).", "YEAR (0 .. 999; 0 at first)."})
  private static void p01_new_barnAndYear0() {
    Edges.taken(new RotationOfFarmers(), "barn", y -> y.count(4), 0);
    Edges.taken(new RotationOfFarmers(), "barn in no years", y -> y.barnThen(0), 0);
    Edges.taken(new RotationOfFarmers(), "year", y -> y.count(2), 0);
    Edges.taken(new RotationOfFarmers(), "year of an image", y -> y.image(), 0);
  }

  @Edge(promise = 1, says = "No FARMS, no FARMERS, STEP 1.")
  private static void p01_new_nothingElse() {
    RotationOfFarmers x = new RotationOfFarmers();
    Due.is("row", x.count(6), 0);
    Due.is("letters", x.count(7), 0);
    for (int what = 11; what <= 16; what++) {
      Due.is("refusals, what " + what, x.count(what), 0);
    }
    Due.is("no image", x.on(), Due.STATE);
  }

  @Edge(promise = 1, says = "No FARMS, no FARMERS, STEP 1.")
  private static void p01_new_sharesNothingWithAnother() {
    RotationOfFarmers x = Edges.full();
    RotationOfFarmers y = new RotationOfFarmers();
    Due.is("farms of the new one", y.count(0), 0);
    Due.is("farmers of the new one", y.count(1), 0);
    Due.is("letters of the new one", y.count(7), 0);
    Due.is("row of the new one", y.count(6), 0);
    Due.is("image of the new one", y.on(), Due.STATE);
    Due.is("refusals of the old one", x.count(13), 0);
    Due.is("farms of the old one", x.count(0), 6);
  }

  @Edge(promise = 2, says = "A letter (0 .. 255) comes: how many there are.")
  private static void p02_letter_0_least() {
    Edges.taken(new RotationOfFarmers(), "letter 0", y -> y.letter(0), 1);
    Edges.taken(Edges.busy(), "letter 0 behind three", y -> y.letter(0), 4);
  }

  @Edge(promise = 2, says = "A letter (0 .. 255) comes: how many there are.")
  private static void p02_letter_255_greatest() {
    Edges.taken(new RotationOfFarmers(), "letter 255", y -> y.letter(255), 1);
    Edges.taken(Edges.busy(), "letter 255 behind three", y -> y.letter(255), 4);
  }

  @Edge(promise = 2, says = {"-4;", "-4 BELOW: a number below the least."})
  private static void p02_letter_below0() {
    Edges.refused(Due.BELOW, "letter -1", y -> y.letter(-1));
    Edges.refused(Due.BELOW, "letter least", y -> y.letter(Edges.LEAST));
    Edges.refused(Due.BELOW, "letter -256", y -> y.letter(-256));
  }

  @Edge(promise = 2, says = {"-6 (255; 96, too).", "-6 ROOM: a number above the greatest, no room."})
  private static void p02_letter_above255() {
    Edges.refused(Due.ROOM, "letter 256", y -> y.letter(256));
    Edges.refused(Due.ROOM, "letter most", y -> y.letter(Edges.MOST));
    Edges.refused(Due.ROOM, "letter 256 and a letter", y -> y.letter(256 + 's'));
  }

  @Edge(promise = 2, says = {"-6 (255; 96, too).", "LAND is told in letters, one by one (96 at most)"})
  private static void p02_letter_96thIsTheLast() {
    RotationOfFarmers x = new RotationOfFarmers();
    for (int i = 1; i <= 96; i++) {
      Due.is("letter " + i, x.letter(255), i);
    }
    Due.is("refusals so far", x.count(16), 0);
    Due.is("letters", x.count(7), 96);
    Due.is("the 97th", x.letter(0), Due.ROOM);
    Due.is("letters", x.count(7), 96);
    Edges.refusedOf(Edges::full, Due.ROOM, "the 97th, 0", y -> y.letter(0));
    Edges.refusedOf(Edges::full, Due.ROOM, "the 97th, 255", y -> y.letter(255));
  }

  @Edge(promise = 2, says = {"-4;", "-6 (255; 96, too)."})
  private static void p02_letter_withoutRoomAndOutOfRange() {
    Edges.refusedOf(Edges::full, Due.BELOW, "the 97th, -1: below is told", y -> y.letter(-1));
    Edges.refusedOf(Edges::full, Due.BELOW, "the 97th, least: below is told", y -> y.letter(Edges.LEAST));
    Edges.refusedOf(Edges::full, Due.ROOM, "the 97th, 256: room, once", y -> y.letter(256));
  }

  @Edge(promise = 2, says = "how many there are.")
  private static void p02_letter_afterLandFrom1Again() {
    RotationOfFarmers x = Edges.full();
    Due.is("land of 96", x.land(), 32);
    for (int i = 1; i <= 96; i++) {
      Due.is("letter " + i, x.letter(';'), i);
    }
    Due.is("refusals so far", x.count(16), 0);
    Due.is("the 97th", x.letter(';'), Due.ROOM);
    Due.is("a fault of 96", x.land(), -1000);
    Edges.taken(x, "letter behind the fault", y -> y.letter(';'), 1);
  }

  @Edge(promise = 2, says = "A letter (0 .. 255) comes")
  private static void p02_letter_refusedOnesDoNotCome() {
    RotationOfFarmers x = new RotationOfFarmers();
    int[] told = {-1, 's', 256, '2', Edges.LEAST, ';', Edges.MOST};
    for (int c : told) {
      x.letter(c);
    }
    Due.is("land of s2;", x.land(), 1);
    Due.is("step", x.count(3), 2);
  }

  @Edge(promise = 3, says = {"how many STATEMENTS;", "STATEMENTS, each with \";\" behind:"})
  private static void p03_land_oneStatementIsTheLeast() {
    comes("s2;", 1);
    fault("s2", -1002);
    fault("s2:", -1002);
    fault("s2;;", -1003);
  }

  @Edge(promise = 3, says = {"how many STATEMENTS;", "LAND is told in letters, one by one (96 at most)"})
  private static void p03_land_96Letters() {
    Due.is("step of the last of 32", comes(times("s2;", 31) + "s5;", 32).count(3), 5);
    Due.is("farms of 96 letters", comes(times("f000000;", 6) + times("h0001;", 8), 14).count(0), 6);
    fault(times("s2;", 31) + "a00", -1096);
    fault(times("s2;", 31) + "s2x", -1095);
    fault(times("s2;", 31) + "s6;", -2093);
  }

  @Edge(promise = 3, says = {"At least one STATEMENT.", "(the end, if something lacks)"})
  private static void p03_land_noLetter() {
    fault("", -1000);
    faultIn(Due.landOf("f201510;pw3;a00;"), "", -1000);
  }

  @Edge(promise = 3, says = "The letters become LAND, and are no more (with a FAULT neither)")
  private static void p03_land_lettersAreNoMore() {
    RotationOfFarmers x = new RotationOfFarmers();
    Due.is("land", Due.tell(x, "s2;"), 1);
    Due.is("letters", x.count(7), 0);
    Due.is("again, of none", x.land(), -1000);
    Due.is("fault of letters", Due.tell(x, "s2;x"), -1003);
    Due.is("letters", x.count(7), 0);
    Due.is("again, of none", x.land(), -1000);
    Due.is("fault of a statement", Due.tell(x, "s3;s6;"), -2003);
    Due.is("letters", x.count(7), 0);
    Due.is("again, of none", x.land(), -1000);
    Due.is("the next text stands alone", Due.tell(x, "s4;"), 1);
    Due.is("step", x.count(3), 4);
  }

  @Edge(promise = 3, says = "the FAULT (nothing is counted).")
  private static void p03_land_faultIsNoRefusal() {
    String[] texts = {"", "x", "s9;", "o0;", "a00;", "y61;", "h0000;"};
    RotationOfFarmers x = new RotationOfFarmers();
    for (String text : texts) {
      Due.isTrue("fault of " + text, Due.tell(x, text) < 0);
    }
    for (int what = 11; what <= 16; what++) {
      Due.is("refusals, what " + what, x.count(what), 0);
    }
  }

  @Edge(promise = 3, says = {"\"f\" three HEARTS (2 digits each): a FARM more;", "(0 .. 30 each)"})
  private static void p03_land_f_hearts0And30() {
    RotationOfFarmers x = comes("f000000;f303030;f003000;", 3);
    Edges.heartsAre("least", x, 0, 0, 0, 0);
    Edges.heartsAre("greatest", x, 1, 30, 30, 30);
    Edges.heartsAre("in their order", x, 2, 0, 30, 0);
    Due.is("nobody is there", x.farm(2, 4), Edges.NONE);
  }

  @Edge(promise = 3, says = {"\"f\" three HEARTS (2 digits each): a FARM more;", "a number out of range"})
  private static void p03_land_f_heart31() {
    fault("f310000;", -2000);
    fault("f003100;", -2000);
    fault("f000031;", -2000);
    fault("f999999;", -2000);
    fault("f303030;f303031;", -2008);
  }

  @Edge(promise = 3, says = "\"f\" three HEARTS (2 digits each): a FARM more;")
  private static void p03_land_f_nextToDigits() {
    for (int i = 1; i <= 6; i++) {
      for (char c : new char[] {'/', ':', ';', 'f'}) {
        StringBuilder text = new StringBuilder("f000000;");
        text.setCharAt(i, c);
        fault(text.toString(), -1000 - i);
      }
    }
    fault("f0000000;", -1007);
  }

  @Edge(promise = 3, says = {"FARMS 0 .. as they come (6 at most): three SORTS of HEART, 0, 1, 2", "no room for more"})
  private static void p03_land_f_sixthAndSeventh() {
    RotationOfFarmers x = comes(times("f000000;", 5) + "f000001;", 6);
    Due.is("farms", x.count(0), 6);
    Due.is("the sixth", x.farm(5, 2), 1);
    faultIn(x, "f000000;", -2000);
    faultIn(x, "s2;f000000;", -2003);
    fault(SIX_FARMS + "f000000;", -2048);
    RotationOfFarmers five = comes(times("f000000;", 5), 5);
    faultIn(five, "f000000;f000000;", -2008);
    Due.is("the sixth alone", Due.tell(five, "f000000;"), 1);
  }

  @Edge(promise = 3, says = "\"p\" a letter of a KIND, FIGURE (a digit): a FARMER more;")
  private static void p03_land_p_everyLetter() {
    for (int c = 0; c <= 255; c++) {
      int kind = c == 0 ? -1 : "wtrcfm".indexOf(c);
      RotationOfFarmers x = new RotationOfFarmers();
      int[] told = {'p', c, '5', ';'};
      for (int one : told) {
        x.letter(one);
      }
      Due.is("land of p, " + c + ", 5;", x.land(), kind < 0 ? -1001 : 1);
      Due.is("farmers", x.count(1), kind < 0 ? 0 : 1);
      if (kind >= 0) {
        Due.is("kind of " + c, x.farmer(0, 0), kind);
      }
    }
  }

  @Edge(promise = 3, says = {"\"p\" a letter of a KIND, FIGURE (a digit): a FARMER more;", "FIGURE (0 .. 9)"})
  private static void p03_land_p_figures() {
    RotationOfFarmers x = comes("pm0;pw9;", 2);
    Due.is("figure 0", x.farmer(0, 1), 0);
    Due.is("figure 9", x.farmer(1, 1), 9);
    fault("pw/;", -1002);
    fault("pw:;", -1002);
    fault("pw;", -1002);
    fault("pw10;", -1003);
  }

  @Edge(promise = 3, says = {"TIRED (0 .. 20; 0 at first)", "AT a FARM (one at most there) or none (at first)"})
  private static void p03_land_p_atFirst() {
    RotationOfFarmers x = comes("f000000;pw0;a00;y01;pw0;", 5);
    Due.is("the first is tired", x.farmer(0, 2), 2);
    Due.is("a fresh one is not", x.farmer(1, 2), 0);
    Due.is("he is at none", x.farmer(1, 3), Edges.NONE);
    RotationOfFarmers again = new RotationOfFarmers();
    again.image();
    Due.is("one who works", Due.tell(again, "f000000;pm9;a00;y02;"), 4);
    Due.is("he is tired", again.farmer(0, 2), 8);
    again.on();
    Due.is("another in his stead", Due.tell(again, "pw0;f000000;"), 2);
    Due.is("he is not tired", again.farmer(0, 2), 0);
    Due.is("he is a whig", again.farmer(0, 5), 2);
    Due.is("he is at none", again.farmer(0, 3), Edges.NONE);
    Due.is("nobody is there", again.farm(0, 4), Edges.NONE);
  }

  @Edge(promise = 3, says = {"FARMERS 0 .. as they come (6 at most): KIND, FIGURE (0 .. 9)", "no room for more"})
  private static void p03_land_p_sixthAndSeventh() {
    RotationOfFarmers x = comes(times("pw0;", 5) + "pm9;", 6);
    Due.is("farmers", x.count(1), 6);
    Due.is("the sixth", x.farmer(5, 0), 5);
    faultIn(x, "pw0;", -2000);
    faultIn(x, "s2;pw0;", -2003);
    fault(SIX_FARMERS + "pw0;", -2024);
    RotationOfFarmers five = comes(times("pw0;", 5), 5);
    faultIn(five, "pw0;pw0;", -2004);
    Due.is("the sixth alone", Due.tell(five, "pw0;"), 1);
  }

  @Edge(promise = 3, says =
      "\"a\" a FARMER, a FARM (a digit each): he is AT it then (who was is none; his own is free);")
  private static void p03_land_a_firstAndLast() {
    RotationOfFarmers x = comes(SIX_FARMS + SIX_FARMERS + "a00;a55;", 14);
    Due.is("the first at the first", x.farmer(0, 3), 0);
    Due.is("the last at the last", x.farmer(5, 3), 5);
    Due.is("others at none", x.free(1), 2 + 4 + 8 + 16);
    faultBehind(SIX_FARMS + SIX_FARMERS, "a60;", -2000);
    faultBehind(SIX_FARMS + SIX_FARMERS, "a06;", -2000);
    faultBehind(SIX_FARMS + SIX_FARMERS, "a99;", -2000);
    faultBehind(SIX_FARMS + SIX_FARMERS, "a01;a60;", -2004);
  }

  @Edge(promise = 3, says = {"\"a\" a FARMER, a FARM (a digit each)", "no such FARM, FARMER so far"})
  private static void p03_land_a_none() {
    fault("a00;", -2000);
    fault("f000000;a00;", -2008);
    fault("pw0;a00;", -2004);
    fault("f000000;pw0;a10;", -2012);
    fault("f000000;pw0;a01;", -2012);
    comes("f000000;pw0;a00;", 3);
  }

  @Edge(promise = 3, says = "he is AT it then (who was is none; his own is free);")
  private static void p03_land_a_whoWasAndHisOwn() {
    RotationOfFarmers x = comes("f000000;f000000;pw0;pw0;a00;a11;", 6);
    Due.is("again", Due.tell(x, "a10;"), 1);
    Due.is("he is there", x.farm(0, 4), 1);
    Due.is("who was is none", x.farmer(0, 3), Edges.NONE);
    Due.is("his own is free", x.farm(1, 4), Edges.NONE);
    Due.is("where he is already", Due.tell(x, "a10;"), 1);
    Due.is("he stays", x.farmer(1, 3), 0);
  }

  @Edge(promise = 3, says = "\"o\" a FARMER (a digit): he is AT none;")
  private static void p03_land_o() {
    RotationOfFarmers x = comes("f000000;" + SIX_FARMERS + "a50;o5;", 9);
    Due.is("the last has left", x.farmer(5, 3), Edges.NONE);
    Due.is("the farm is free", x.farm(0, 4), Edges.NONE);
    Due.is("leaves though at none", Due.tell(x, "o5;o0;"), 2);
    faultBehind("f000000;" + SIX_FARMERS, "o6;", -2000);
    faultBehind("f000000;" + SIX_FARMERS, "o9;", -2000);
    fault("o0;", -2000);
    fault("o00;", -1002);
  }

  @Edge(promise = 3, says = "\"h\" a FARM, a SORT (a digit each), HEART (2 digits);")
  private static void p03_land_h() {
    RotationOfFarmers x = comes(SIX_FARMS + "h0030;h5230;h5130;h5100;", 10);
    Edges.heartsAre("the first", x, 0, 30, 0, 0);
    Edges.heartsAre("the last", x, 5, 0, 0, 30);
    faultBehind(SIX_FARMS, "h6000;", -2000);
    faultBehind(SIX_FARMS, "h0300;", -2000);
    faultBehind(SIX_FARMS, "h0900;", -2000);
    faultBehind(SIX_FARMS, "h0031;", -2000);
    faultBehind(SIX_FARMS, "h5299;", -2000);
    fault("h0000;", -2000);
    fault("h000;", -1004);
    fault("h00000;", -1005);
  }

  @Edge(promise = 3, says = {"\"s\" STEP (a digit);", "STEP (0 .. 5; 1 at first)."})
  private static void p03_land_s() {
    Due.is("step 0", comes("s0;", 1).count(3), 0);
    Due.is("step 5", comes("s5;", 1).count(3), 5);
    fault("s6;", -2000);
    fault("s9;", -2000);
    fault("s/;", -1001);
    fault("s:;", -1001);
    fault("s10;", -1002);
  }

  @Edge(promise = 3, says = "\"y\" YEARS (2 digits, 1 .. 60): they go by.")
  private static void p03_land_y() {
    Due.is("one year", comes("y01;", 1).count(2), 1);
    Due.is("sixty years", comes("y60;", 1).count(2), 60);
    Due.is("60 and 60", comes("y60;y60;", 2).count(2), 120);
    fault("y00;", -2000);
    fault("y61;", -2000);
    fault("y99;", -2000);
    fault("y1;", -1002);
    fault("y001;", -1003);
    fault("y-1;", -1001);
  }

  @Edge(promise = 3, says = {"YEAR above 999", "YEAR (0 .. 999; 0 at first)."})
  private static void p03_land_y_999() {
    RotationOfFarmers x = Edges.inYear(939);
    Due.is("sixty, to 999", Due.tell(x, "y60;"), 1);
    Due.is("year", x.count(2), 999);
    faultIn(x, "y01;", -2000);
    RotationOfFarmers y = Edges.inYear(940);
    faultIn(y, "y60;", -2000);
    faultIn(y, "y30;y30;", -2004);
    Due.is("to 999 by two", Due.tell(y, "y30;y29;"), 2);
    Due.is("year", y.count(2), 999);
    RotationOfFarmers z = Edges.inYear(998);
    faultIn(z, "y02;", -2000);
    Due.is("one, to 999", Due.tell(z, "y01;"), 1);
  }

  @Edge(promise = 3, says = {
      "FAULT: kind 1 the place of the first letter with which no LAND can go on",
      "-1000 less the place;"})
  private static void p03_land_fault1_everyFirstLetter() {
    for (int c = 0; c <= 255; c++) {
      boolean goesOn = c != 0 && "fpaohsy".indexOf(c) >= 0;
      RotationOfFarmers x = new RotationOfFarmers();
      x.letter(c);
      Due.is("land of letter " + c, x.land(), goesOn ? -1001 : -1000);
      Due.tell(x, "s2;");
      x.letter('s');
      x.letter('3');
      x.letter(';');
      x.letter(c);
      Due.is("land of s3; and letter " + c, x.land(), goesOn ? -1004 : -1003);
    }
  }

  @Edge(promise = 3, says = "the place of the first letter with which no LAND can go on")
  private static void p03_land_fault1_everyOtherLetterBehindADigit() {
    for (int c = 0; c <= 255; c++) {
      if (c != ';') {
        RotationOfFarmers x = new RotationOfFarmers();
        x.letter('s');
        x.letter('1');
        x.letter(c);
        Due.is("land of s1 and letter " + c, x.land(), -1002);
      }
    }
  }

  @Edge(promise = 3, says = "(the end, if something lacks)")
  private static void p03_land_fault1_theEnd() {
    String[] statements = {"f302010;", "pw3;", "a00;", "o0;", "h0012;", "s2;", "y01;"};
    for (String statement : statements) {
      for (int length = 1; length < statement.length(); length++) {
        fault(statement.substring(0, length), -1000 - length);
        fault("f302010;pw3;" + statement.substring(0, length), -1012 - length);
      }
    }
  }

  @Edge(promise = 3, says = "else kind 2 the place of the first letter of the first STATEMENT that,")
  private static void p03_land_fault1_goesAhead() {
    fault("s9;x", -1003);
    fault("s9;s9", -1005);
    fault("o0;a00;y00;p", -1012);
    fault(times("f999999;", 11) + "s2;x", -1091);
  }

  @Edge(promise = 3, says = {
      "else kind 2 the place of the first letter of the first STATEMENT that,",
      "-2000 less the place."})
  private static void p03_land_fault2_theFirstOfSeveral() {
    fault("s9;o0;", -2000);
    fault("s1;s9;o0;f990000;", -2003);
    fault("f000000;pw0;a00;a01;a10;", -2016);
    fault(times("y60;", 16) + "y40;s9;", -2064);
  }

  @Edge(promise = 3, says = "behind all ahead of it in the text, is not as it must be")
  private static void p03_land_fault2_behindAllAhead() {
    comes("f000000;pw0;a00;o0;h0001;", 5);
    fault("a00;f000000;pw0;", -2000);
    fault("f000000;a00;pw0;", -2008);
    fault("h0001;f000000;", -2000);
    fault("pw0;o1;pw0;", -2004);
    comes("pw0;pw0;o1;", 3);
    RotationOfFarmers x = comes(times("f000000;", 3) + times("pw0;", 3), 6);
    faultIn(x, times("f000000;", 4), -2024);
    faultIn(x, times("pw0;", 4), -2012);
    Due.is("three more", Due.tell(x, times("f000000;", 3) + times("pw0;", 3)), 6);
  }

  @Edge(promise = 3, says = "Without FAULT all of it comes, with one nothing.")
  private static void p03_land_withFaultNothing() {
    String ahead = "f000000;pw1;o0;a11;h0000;s3;y05;";
    String[] ends = {"s6;", "x", "s", "y60"};
    int[] due = {-2032, -1032, -1033, -1035};
    for (int i = 0; i < ends.length; i++) {
      RotationOfFarmers x = Due.landOf("f201510;pw3;a00;y02;");
      x.row(45);
      x.image();
      RotationOfFarmers twin = Due.landOf("f201510;pw3;a00;y02;");
      twin.row(45);
      twin.image();
      Due.is("fault of " + ahead + ends[i], Due.tell(x, ahead + ends[i]), due[i]);
      Due.isTrue("nothing of it has come", Edges.everything(x).equals(Edges.everything(twin)));
    }
  }

  @Edge(promise = 3, says = "Without FAULT all of it comes, with one nothing.")
  private static void p03_land_withoutFaultAll() {
    RotationOfFarmers x = Due.landOf("f201510;pw3;a00;");
    x.row(7);
    x.image();
    Due.is("all of it", Due.tell(x, "f000000;pm1;o0;a11;h0004;s3;y05;"), 7);
    Edges.heartsAre("the first, alone, fed, alone, with one worn, alone", x, 0, 10, 19, 14);
    Due.is("step", x.count(3), 3);
    Due.is("year", x.count(2), 5);
    Due.is("the row stays", x.count(6), 1);
    Due.is("the image stays", x.on(), 0);
    Due.is("one farm", x.count(0), 1);
  }
}
