/** Boundary cases of promises 37 to 39: the image, on from it, and what is counted. */
public final class EdgesOfImageTest {
  public static void main(String[] args) {
    Edges.run(EdgesOfImageTest.class);
  }

  @Edge(promise = 37, says = "THE IMAGE is taken: YEAR.")
  private static void p37_image_year0And999() {
    Edges.taken(new RotationOfFarmers(), "of a new object", RotationOfFarmers::image, 0);
    Edges.taken(Edges.inYear(999), "in the last year", RotationOfFarmers::image, 999);
    Edges.taken(Edges.busy(), "in place of another", RotationOfFarmers::image, 3);
    Edges.taken(Edges.full(), "of all", RotationOfFarmers::image, 0);
  }

  @Edge(promise = 37, says = {
      "THE IMAGE is taken: YEAR.",
      "THE IMAGE: all that there is, but it, the ROW, letters, REFUSALS;"})
  private static void p37_image_changesNothing() {
    RotationOfFarmers x = Edges.full();
    long[] before = Due.state(x);
    x.image();
    Due.sameState("behind the image", x, before);
    Due.is("letters come", x.land(), 32);
    Due.is("the row is full", x.clear(), 16);
  }

  @Edge(promise = 38, says = {"-3 there is none.", "-3 STATE: it is not as it must be."})
  private static void p38_on_withoutImage() {
    Edges.refusedOf(Edges::empty, Due.STATE, "of a new object", RotationOfFarmers::on);
    Edges.refusedOf(() -> Due.landOf("f201510;pw3;a00;y05;"), Due.STATE, "of land", RotationOfFarmers::on);
    RotationOfFarmers x = new RotationOfFarmers();
    Due.is("none", x.on(), Due.STATE);
    x.image();
    Edges.taken(x, "behind one", RotationOfFarmers::on, 0);
    Due.is("counted", x.count(13), 1);
  }

  @Edge(promise = 38, says = {"ON from it: YEAR.", "ON from it all is as then."})
  private static void p38_on_toNothingAndToAll() {
    RotationOfFarmers x = new RotationOfFarmers();
    long[] nothing = Due.state(x);
    x.image();
    Due.isTrue("land comes", Due.tell(x, "f303030;f303030;pr0;pm9;a00;a11;s5;y60;") == 8);
    Edges.taken(x, "on to nothing", RotationOfFarmers::on, 0);
    Due.sameState("nothing", x, nothing);
    Due.is("no farm", x.farm(0, 0), Due.NOBODY);
    Due.is("no farmer", x.farmer(0, 0), Due.NOBODY);
    RotationOfFarmers full = Edges.full();
    full.land();
    full.clear();
    full.years(7);
    full.tires(5, 20);
    long[] then = Due.state(full);
    full.image();
    full.years(60);
    full.turn(0, 5, 9);
    full.leaves(1);
    full.hearts(5, 2, 0);
    full.steps(0);
    Edges.taken(full, "on to all", RotationOfFarmers::on, 7);
    Due.sameState("all", full, then);
  }

  @Edge(promise = 38, says = "ON from it: YEAR.")
  private static void p38_on_againAndFromTheLast() {
    RotationOfFarmers x = Due.landOf("f201510;pw3;a00;s0;");
    x.image();
    Due.is("corn of three years", x.years(3), 10 + 8 + 7);
    Edges.taken(x, "on", RotationOfFarmers::on, 0);
    Due.is("the same corn again", x.years(3), 10 + 8 + 7);
    Edges.taken(x, "on again: the image stays", RotationOfFarmers::on, 0);
    x.years(1);
    Edges.taken(x, "an image in place of it", RotationOfFarmers::image, 1);
    x.years(60);
    Edges.taken(x, "on from the last", RotationOfFarmers::on, 1);
    Due.is("barn", x.count(4), 10);
    Edges.taken(x, "on from where it is", RotationOfFarmers::on, 1);
    RotationOfFarmers late = Edges.inYear(999);
    late.image();
    Due.is("years", late.years(1), Due.ROOM);
    Edges.taken(late, "on in the last year", RotationOfFarmers::on, 999);
  }

  @Edge(promise = 38, says =
      "THE IMAGE: all that there is, but it, the ROW, letters, REFUSALS; ON from it all is as then.")
  private static void p38_on_rowLettersRefusalsStay() {
    RotationOfFarmers x = new RotationOfFarmers();
    x.row(1);
    x.letter('s');
    x.steps(9);
    x.image();
    x.row(2);
    x.letter('4');
    x.letter(';');
    x.steps(9);
    x.steps(-9);
    Edges.taken(x, "on", RotationOfFarmers::on, 0);
    Due.is("row", x.count(6), 2);
    Due.is("letters", x.count(7), 3);
    Due.is("refusals -6", x.count(16), 2);
    Due.is("refusals -4", x.count(14), 1);
    x.clear();
    Due.is("the letters come", x.land(), 1);
    Edges.taken(x, "on again", RotationOfFarmers::on, 0);
    Due.is("step as then", x.count(3), 1);
    Due.is("row has none still", x.count(6), 0);
    Due.is("letters are no more still", x.count(7), 0);
  }

  @Edge(promise = 39, says = {
      "0 FARMS, 1 FARMERS, 2 YEAR, 3 STEP, 4 the BARN, 5 GREEN of all FARMS, 6 in the ROW, 7 letters,",
      "11 .. 16 REFUSALS -1 .. -6."})
  private static void p39_count_leastAndGreatest() {
    int[] least = {0, 0, 0, 1, 0, 0, 0, 0};
    int[] most = {6, 6, 0, 1, 0, 3 * (5 + 8 + 11 + 14 + 17 + 20) + 18, 16, 96};
    for (int i = 0; i < 8; i++) {
      int what = i;
      Edges.taken(new RotationOfFarmers(), "of nothing, " + i, y -> y.count(what), least[i]);
      Edges.taken(Edges.full(), "of all, " + i, y -> y.count(what), most[i]);
    }
    for (int i = 11; i <= 16; i++) {
      int what = i;
      Edges.taken(new RotationOfFarmers(), "of none, " + i, y -> y.count(what), 0);
    }
    Edges.taken(Edges.inYear(999), "year", y -> y.count(2), 999);
    Edges.taken(Edges.fullBarn(), "barn", y -> y.count(4), 9999);
    Edges.taken(Due.landOf("f303030;f303030;f303030;f303030;f303030;f303030;s5;"), "green", y -> y.count(5), 540);
    Edges.taken(Due.landOf("s5;"), "step", y -> y.count(3), 5);
    Edges.taken(Due.landOf("s0;"), "step", y -> y.count(3), 0);
  }

  @Edge(promise = 39, says = "11 .. 16 REFUSALS -1 .. -6.")
  private static void p39_count_refusals() {
    RotationOfFarmers x = new RotationOfFarmers();
    int[] due = new int[7];
    for (int round = 1; round <= 9; round++) {
      x.farm(0, 0);
      due[1]++;
      x.mean(2);
      x.free(3);
      due[2] += 2;
      x.on();
      due[3]++;
      x.row(-1);
      x.frost(-1, 2, 0, 0);
      x.letter(-1);
      due[4] += 3;
      x.steps(6);
      due[6]++;
      for (int i = 1; i <= 6; i++) {
        Due.is("refusals " + -i + " in round " + round, x.count(10 + i), due[i]);
      }
    }
    Due.is("there is no refusal -5", x.count(15), 0);
  }

  @Edge(promise = 39, says = "-9 for another what.")
  private static void p39_count_anotherWhat() {
    int[] others = {-1, 8, 9, 10, 17, 18, -9, 255, Edges.LEAST, Edges.MOST, Edges.LEAST + 10, Edges.LEAST + 11};
    for (int what : others) {
      Edges.taken(new RotationOfFarmers(), "of nothing, " + what, y -> y.count(what), Edges.NONE);
      Edges.taken(Edges.full(), "of all, " + what, y -> y.count(what), Edges.NONE);
    }
  }
}
