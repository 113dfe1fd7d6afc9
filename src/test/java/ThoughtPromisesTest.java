/** Promises 13 to 29: what is asked of years to come, and of what is. */
public final class ThoughtPromisesTest {
  private static final int LEAST = Integer.MIN_VALUE;
  private static final int MOST = Integer.MAX_VALUE;
  private static final int NONE = Model.NONE;

  public static void main(String[] args) {
    heartThen();
    farmerThen();
    barnThen();
    beyondTheLastYear();
    greenest();
    lost();
    lostAtTheLastYear();
    crop();
    bestStep();
    send();
    change();
    next();
    nextOfSix();
    feed();
    settles();
    round();
    free();
    inHeart();
    even();
    two();
    twoRefused();
    Due.end("ThoughtPromisesTest");
  }

  /** A whig who stays: he tires by 2, rests in the sixth year, and takes 3 in each year he works. */
  private static RotationOfFarmers whigWhoStays() {
    return Due.landOf("f300000;pw3;a00;s0;");
  }

  /** Promise 13. */
  private static void heartThen() {
    RotationOfFarmers x = whigWhoStays();
    long[] state = Due.state(x);
    int[] due = {30, 27, 24, 21, 18, 15, 15, 12, 9, 6, 6, 3, 0, 0};
    for (int n = 0; n < due.length; n++) {
      Due.is("heart behind " + n, x.heartThen(0, 0, n), due[n]);
    }
    Due.is("another sort", x.heartThen(0, 1, 4), 4);
    Due.is("a sort nothing changes", x.heartThen(0, 2, 60), 0);
    Due.sameState("behind thought", x, state);
    Due.refused(x, Due.NOBODY, "heartThen, no such farm", () -> x.heartThen(1, 0, 0));
    Due.refused(x, Due.NOBODY, "heartThen, farm -1", () -> x.heartThen(-1, 0, 0));
    Due.refused(x, Due.NOBODY, "heartThen, sort 3", () -> x.heartThen(0, 3, 0));
    Due.refused(x, Due.NOBODY, "heartThen, sort -1 and below", () -> x.heartThen(0, -1, -1));
    Due.refused(x, Due.BELOW, "heartThen -1", () -> x.heartThen(0, 0, -1));
    Due.refused(x, Due.ROOM, "heartThen 61", () -> x.heartThen(0, 0, 61));
  }

  /** Promise 14. */
  private static void farmerThen() {
    RotationOfFarmers x = Due.landOf("f303030;f303030;f303030;pw3;pt0;a00;s2;");
    x.tires(1, 12);
    int[] tired = {0, 2, 4, 6, 8, 10, 5, 7, 9, 11, 6};
    int[] place = {0, 2, 1, 0, 2, 1, 0, 2, 1, 0, 2};
    int[] idle = {12, 7, 2, 0, 0, 0, 0, 0, 0, 0, 0};
    for (int n = 0; n < tired.length; n++) {
      Due.is("tired behind " + n, x.farmerThen(0, n, 0), tired[n]);
      Due.is("place behind " + n, x.farmerThen(0, n, 1), place[n]);
      Due.is("idle one's tired behind " + n, x.farmerThen(1, n, 0), idle[n]);
      Due.is("idle one's place behind " + n, x.farmerThen(1, n, 1), NONE);
    }
    Due.is("place behind 60", x.farmerThen(0, 60, 1), 0);
    Due.is("nothing has moved", x.farmer(0, 3), 0);
    Due.refused(x, Due.NOBODY, "farmerThen, no such farmer", () -> x.farmerThen(2, 0, 0));
    Due.refused(x, Due.NOBODY, "farmerThen, farmer -1 and all", () -> x.farmerThen(-1, -1, 2));
    Due.refused(x, Due.BELOW, "farmerThen -1", () -> x.farmerThen(0, -1, 0));
    Due.refused(x, Due.BELOW, "farmerThen -1 and other", () -> x.farmerThen(0, -1, 2));
    RotationOfFarmers y = Due.landOf("f303030;pw3;");
    Due.refused(y, Due.ROOM, "farmerThen 61", () -> y.farmerThen(0, 61, 0));
    Due.refused(y, Due.ROOM, "farmerThen 61 and other", () -> y.farmerThen(0, 61, 2));
    Due.refused(y, Due.OTHER, "farmerThen what 2", () -> y.farmerThen(0, 0, 2));
    Due.refused(y, Due.OTHER, "farmerThen what -1", () -> y.farmerThen(0, 0, -1));
  }

  /** Promise 15. */
  private static void barnThen() {
    RotationOfFarmers x = whigWhoStays();
    int[] due = {0, 15, 28, 40, 50, 59, 59, 66};
    for (int n = 0; n < due.length; n++) {
      Due.is("barn behind " + n, x.barnThen(n), due[n]);
    }
    x.years(2);
    Due.is("barn now", x.barnThen(0), 28);
    Due.is("barn a year on", x.barnThen(1), 40);
    Due.is("barn", x.count(4), 28);
    Due.isTrue("barn behind 60", x.barnThen(60) > 66);
    Due.refused(x, Due.BELOW, "barnThen -1", () -> x.barnThen(-1));
    Due.refused(x, Due.ROOM, "barnThen 61", () -> x.barnThen(61));
  }

  private static void beyondTheLastYear() {
    RotationOfFarmers x = new RotationOfFarmers();
    for (int i = 0; i < 16; i++) {
      x.years(60);
    }
    x.years(39);
    Due.is("they come at the end", Due.tell(x, "f000000;pw0;"), 2);
    Due.is("heart behind year 999", x.heartThen(0, 1, 20), 20);
    Due.is("settles behind year 999", x.settles(), 30);
    Due.is("year", x.count(2), 999);
  }

  /** Promise 16. */
  private static void greenest() {
    Due.is("without farms", new RotationOfFarmers().greenest(), NONE);
    Due.is("of one", Due.landOf("f000000;").greenest(), 0);
    Due.is("the second", Due.landOf("f201010;f300011;f003010;").greenest(), 1);
    Due.is("of several the least", Due.landOf("f201010;f300011;f003011;").greenest(), 1);
    Due.is("the last", Due.landOf("f000000;f000000;f000000;f000000;f000000;f000001;").greenest(), 5);
  }

  /** Promise 17. */
  private static void lost() {
    RotationOfFarmers none = new RotationOfFarmers();
    Due.is("which, without farms", none.lost(0), NONE);
    Due.is("when, without farms", none.lost(1), NONE);
    RotationOfFarmers alone = Due.landOf("f010101;");
    Due.is("which, alone", alone.lost(0), NONE);
    Due.is("when, alone", alone.lost(1), NONE);
    RotationOfFarmers now = Due.landOf("f010101;f010100;f000101;");
    Due.is("which, now", now.lost(0), 1);
    Due.is("when, now", now.lost(1), 0);
    RotationOfFarmers one = Due.landOf("f010101;f303030;pw3;a01;s0;");
    Due.is("which, by the tenth year's work", one.lost(0), 1);
    Due.is("when, by the tenth year's work", one.lost(1), 12);
    RotationOfFarmers two = Due.landOf("f303030;f303004;f303004;pw3;pr3;pr3;a00;a12;a21;s0;");
    Due.is("which of two", two.lost(0), 1);
    Due.is("when of two", two.lost(1), 1);
    Due.refused(one, Due.OTHER, "lost 2", () -> one.lost(2));
    Due.refused(one, Due.OTHER, "lost -1", () -> one.lost(-1));
  }

  /** Lands found by lot in which the first sort is 0 behind 61 years, as the model tells too. */
  private static void lostAtTheLastYear() {
    String[] texts = {"f062329;f202805;f262113;pt1;a00;s1;", "f251321;f221723;f202929;pm4;pt5;a00;a11;s2;"};
    int[] farms = {0, 1};
    for (int i = 0; i < texts.length; i++) {
      RotationOfFarmers x = Due.landOf(texts[i]);
      Due.is("which, behind 61", x.lost(0), NONE);
      Due.is("when, behind 61", x.lost(1), NONE);
      Due.is("in heart till behind 60", x.inHeart(), 61);
      x.years(1);
      Due.is("which, behind 60", x.lost(0), farms[i]);
      Due.is("when, behind 60", x.lost(1), 60);
      Due.is("in heart till behind 59", x.inHeart(), 60);
    }
  }

  /** Promise 18: a whig moves between two farms and grows 10, 15, 9, 14. */
  private static void crop() {
    RotationOfFarmers x = Due.landOf("f200000;f300000;pw0;a00;");
    long[] state = Due.state(x);
    int[][] due = {{10, 0, 10}, {10, 15, 25}, {19, 15, 34}, {19, 29, 48}};
    for (int n = 1; n <= 4; n++) {
      Due.is("crop of the first in " + n, x.crop(0, n), due[n - 1][0]);
      Due.is("crop of the second in " + n, x.crop(1, n), due[n - 1][1]);
      Due.is("crop of all in " + n, x.crop(-1, n), due[n - 1][2]);
    }
    Due.isTrue("crop in 60", x.crop(-1, 60) > 48);
    Due.sameState("behind crop", x, state);
    x.years(1);
    Due.is("what grew is no more of it", x.crop(-1, 1), 15);
    Due.is("without farms", new RotationOfFarmers().crop(-1, 60), 0);
    Due.refused(x, Due.NOBODY, "crop, no such farm", () -> x.crop(2, 1));
    Due.refused(x, Due.NOBODY, "crop, farm -2", () -> x.crop(-2, 1));
    Due.refused(x, Due.NOBODY, "crop, farm -2 and below", () -> x.crop(-2, 0));
    Due.refused(x, Due.BELOW, "crop 0", () -> x.crop(0, 0));
    Due.refused(x, Due.BELOW, "crop of all 0", () -> x.crop(-1, 0));
    Due.refused(x, Due.ROOM, "crop 61", () -> x.crop(-1, 61));
  }

  /** Promise 19. */
  private static void bestStep() {
    RotationOfFarmers x = Due.landOf("f200000;f300000;pw0;a00;s2;");
    Due.is("all alike: the least", x.bestStep(1, 0), 0);
    Due.is("how much in one", x.bestStep(1, 1), 10);
    Due.is("step 1, and not 3 or 5", x.bestStep(2, 0), 1);
    Due.is("how much in two", x.bestStep(2, 1), 25);
    Due.is("the step stays", x.count(3), 2);
    RotationOfFarmers far = Due.landOf("f000000;f000000;f000000;f000000;f000000;f300000;pw0;a00;");
    Due.is("step 5", far.bestStep(2, 0), 5);
    Due.is("how much by step 5", far.bestStep(2, 1), 15);
    RotationOfFarmers none = new RotationOfFarmers();
    Due.is("without farms", none.bestStep(30, 0), 0);
    Due.is("nothing without farms", none.bestStep(30, 1), 0);
    Due.refused(x, Due.BELOW, "bestStep 0", () -> x.bestStep(0, 0));
    Due.refused(x, Due.BELOW, "bestStep 0 and other", () -> x.bestStep(0, 2));
    Due.refused(x, Due.ROOM, "bestStep 31", () -> x.bestStep(31, 0));
    Due.refused(x, Due.ROOM, "bestStep 31 and other", () -> x.bestStep(31, -1));
    Due.refused(x, Due.OTHER, "bestStep what 2", () -> x.bestStep(1, 2));
    Due.refused(x, Due.OTHER, "bestStep what -1", () -> x.bestStep(30, -1));
  }

  /** Promise 20: a whig grows nothing on a farm of 1, but takes from the roots of the year behind. */
  private static void send() {
    RotationOfFarmers x = Due.landOf("f000000;f010000;pr0;pw0;a00;a11;");
    long[] state = Due.state(x);
    Due.is("send, by one year", x.send(1), NONE);
    Due.is("send, by two years", x.send(2), 1);
    Due.sameState("behind send", x, state);
    RotationOfFarmers twice = Due.landOf("f010000;f010000;f000000;f000000;pr0;pr0;pw0;pw0;a02;a13;a20;a31;s2;");
    Due.is("of several the least", twice.send(2), 2);
    Due.is("the first of all", Due.landOf("f000000;f010000;pw0;pr0;a01;a10;").send(2), 0);
    Due.is("without farmers", Due.landOf("f303030;").send(30), NONE);
    Due.is("who is at none is not sent", Due.landOf("f303030;pm0;").send(30), NONE);
    Due.refused(x, Due.BELOW, "send 0", () -> x.send(0));
    Due.refused(x, Due.ROOM, "send 31", () -> x.send(31));
  }

  /** Promise 21. */
  private static void change() {
    RotationOfFarmers x = Due.landOf("f300000;f003000;pw0;pt0;a01;a10;s0;");
    long[] state = Due.state(x);
    Due.is("both had better change", x.change(1), 1);
    Due.sameState("behind change", x, state);
    x.sits(0, 0);
    x.sits(1, 1);
    Due.is("they had better stay", x.change(1), NONE);
    RotationOfFarmers idle = Due.landOf("f300000;f300000;pf0;pf0;pw0;a01;a10;s0;");
    Due.is("with one at none, of several the first", idle.change(1), 2);
    idle.leaves(0);
    Due.is("with one at none", idle.change(1), 12);
    RotationOfFarmers six = Due.landOf("f300000;pf0;pf0;pf0;pf0;pf0;pw0;a40;s0;");
    Due.is("the last two", six.change(30), 45);
    Due.is("one alone", Due.landOf("f300000;pw0;").change(5), NONE);
    Due.refused(x, Due.BELOW, "change 0", () -> x.change(0));
    Due.refused(x, Due.ROOM, "change 31", () -> x.change(31));
  }

  /** Promise 22. */
  private static void next() {
    RotationOfFarmers two = Due.landOf("f200000;f300000;pw0;pw0;a01;");
    nextIs("two alike", two, 25, 0, 1);
    Due.is("who sits where he sits", two.farmer(0, 3), 1);
    nextIs("one farm for two", Due.landOf("f200000;pw0;pr0;a00;"), 13, NONE, 0);
    nextIs("one farm for two alike", Due.landOf("f200000;pw0;pw0;"), 10, 0, NONE);
    nextIs("each by his sort", Due.landOf("f300002;f003000;f202000;pt0;pw0;"), 30, 1, 0);
    nextIs("who grows nothing takes the least farm left", Due.landOf("f300000;f000000;pf0;pw0;"), 15, 1, 0);
    nextIs("he takes the least even if it is more green", Due.landOf("f000030;f000000;pf0;pm0;"), 0, 0, 1);
    nextIs("without farms", Due.landOf("pr0;pr0;"), 0, NONE, NONE);
    RotationOfFarmers worn = Due.landOf("f200000;f300000;pr0;pw0;");
    worn.tires(0, 10);
    nextIs("who is worn grows nothing", worn, 15, 0, 1);
    Due.is("without all", new RotationOfFarmers().next(-1), 0);
    RotationOfFarmers fewer = Due.landOf("f200000;f300000;pw0;");
    fewer.image();
    Due.tell(fewer, "pr0;pr0;");
    Due.is("with two more", fewer.next(-1), 18 + 13);
    fewer.on();
    Due.is("without them again", fewer.next(-1), 15);
    Due.is("he sits", fewer.next(0), 1);
    Due.refused(two, Due.NOBODY, "next 2", () -> two.next(2));
    Due.refused(two, Due.NOBODY, "next -2", () -> two.next(-2));
  }

  private static void nextIs(String what, RotationOfFarmers x, int most, int first, int second) {
    Due.is("next of " + what, x.next(-1), most);
    Due.is("next of " + what + ", the first", x.next(0), first);
    Due.is("next of " + what + ", the second", x.next(1), second);
  }

  private static void nextOfSix() {
    RotationOfFarmers x = Due.landOf("f000000;f100000;f200000;f300000;f001000;f003000;pt0;pr0;pc0;pw0;pm0;pw0;");
    Due.is("next of six", x.next(-1), 15 + 18 + 2 + 10 + 0 + 5);
    int[] due = {5, 1, 4, 2, 0, 3};
    for (int f = 0; f < 6; f++) {
      Due.is("next of six, farmer " + f, x.next(f), due[f]);
    }
  }

  /** Promise 23. */
  private static void feed() {
    RotationOfFarmers x = Due.landOf("f101010;f303030;f260000;f250000;pw3;a00;");
    x.tires(0, 20);
    long[] state = Due.state(x);
    int[] kinds = {5, 4, 4, 5};
    int[] greens = {44, 90, 38, 38};
    for (int farm = 0; farm < 4; farm++) {
      Due.is("feed of " + farm, x.feed(farm, 0), kinds[farm]);
      Due.is("green by feed of " + farm, x.feed(farm, 1), greens[farm]);
    }
    Due.sameState("behind feed", x, state);
    Due.refused(x, Due.NOBODY, "feed, no such farm", () -> x.feed(4, 0));
    Due.refused(x, Due.NOBODY, "feed, farm -1 and other", () -> x.feed(-1, 2));
    Due.refused(x, Due.OTHER, "feed what 2", () -> x.feed(0, 2));
    Due.refused(x, Due.OTHER, "feed what -1", () -> x.feed(0, -1));
  }

  /** Promise 24. */
  private static void settles() {
    Due.is("without all", new RotationOfFarmers().settles(), 0);
    Due.is("full", Due.landOf("f303030;").settles(), 0);
    Due.is("but for the first", Due.landOf("f273030;").settles(), 3);
    Due.is("nearly full", Due.landOf("f303029;f283030;").settles(), 2);
    Due.is("empty", Due.landOf("f303030;f300030;").settles(), 30);
    Due.is("who works never settles", Due.landOf("f303030;pf0;a00;").settles(), NONE);
    RotationOfFarmers idle = Due.landOf("f303030;pw0;pt0;");
    Due.is("who rests has settled", idle.settles(), 0);
    idle.tires(1, 16);
    Due.is("who rests settles", idle.settles(), 4);
    idle.years(3);
    Due.is("he settles sooner", idle.settles(), 1);
  }

  /** Promise 25. */
  private static void round() {
    Due.is("without all", new RotationOfFarmers().round(), 1);
    Due.is("at none", Due.landOf("f000000;f000000;pw0;").round(), 1);
    int[] due = {1, 6, 3, 2, 3, 6};
    for (int step = 0; step < due.length; step++) {
      RotationOfFarmers x = Due.landOf("f000000;f000000;f000000;f000000;f000000;f000000;pw0;pt0;a00;a13;s" + step + ";");
      Due.is("round of six by step " + step, x.round(), due[step]);
    }
    Due.is("round of two by step 5", Due.landOf("f000000;f000000;pw0;a01;s5;").round(), 2);
    Due.is("round of five by step 5", Due.landOf("f000000;f000000;f000000;f000000;f000000;pw0;a01;s5;").round(), 1);
  }

  /** Promise 26. */
  private static void free() {
    RotationOfFarmers x = Due.landOf("f000000;f000000;f000000;f000000;pw0;pw0;pw0;pw0;pw0;a01;a23;");
    x.tires(0, 10);
    x.tires(1, 9);
    x.tires(4, 20);
    Due.is("free farms", x.free(0), 1 + 4);
    Due.is("idle farmers", x.free(1), 2 + 8 + 16);
    Due.is("worn farmers", x.free(2), 1 + 16);
    x.leaves(0);
    x.tires(0, 0);
    Due.is("free farms behind leaving", x.free(0), 1 + 2 + 4);
    Due.is("idle farmers behind leaving", x.free(1), 1 + 2 + 8 + 16);
    Due.is("worn farmers behind resting", x.free(2), 16);
    RotationOfFarmers none = new RotationOfFarmers();
    for (int what = 0; what < 3; what++) {
      Due.is("free " + what + " without all", none.free(what), 0);
    }
    Due.refused(x, Due.OTHER, "free 3", () -> x.free(3));
    Due.refused(x, Due.OTHER, "free -1", () -> x.free(-1));
    Due.refused(none, Due.OTHER, "free most", () -> none.free(MOST));
    Due.refused(none, Due.OTHER, "free least", () -> none.free(LEAST));
  }

  /** Promise 27. */
  private static void inHeart() {
    Due.is("without farms", new RotationOfFarmers().inHeart(), 61);
    Due.is("alone", Due.landOf("f010101;").inHeart(), 61);
    Due.is("not even now", Due.landOf("f010101;f303000;").inHeart(), 0);
    Due.is("a whig's tenth year of work is the twelfth", Due.landOf("f303030;pw0;a00;").inHeart(), 12);
    Due.is("roots", Due.landOf("f303030;f303004;pr0;a01;s0;").inHeart(), 1);
  }

  /** Promise 28. */
  private static void even() {
    Due.is("without farms", new RotationOfFarmers().even(), 0);
    Due.is("of one", Due.landOf("f303030;").even(), 0);
    Due.is("of three", Due.landOf("f201510;f300000;f303029;").even(), 59);
    Due.is("from all to nothing", Due.landOf("f000000;f303030;").even(), 90);
  }

  /** Promise 29: on farms of their own who stays has corn less tiredness, who rests has only that. */
  private static void two() {
    RotationOfFarmers x = Due.landOf("f202020;f202020;f202020;pw0;pf0;pw0;pm0;a00;a11;a22;s0;");
    long[] state = Due.state(x);
    Due.is("both stay", x.two(0, 2, 1), 0);
    Due.is("the other rests", x.two(0, 1, 1), 1);
    Due.is("the first rests", x.two(1, 2, 1), 10);
    Due.is("who is at none anyhow stays", x.two(0, 3, 1), 0);
    Due.sameState("behind two", x, state);
    x.sits(3, 2);
    Due.is("both rest", x.two(1, 3, 1), 11);
    RotationOfFarmers alike = Due.landOf("f040000;f020000;pw0;pw0;a00;a11;s0;");
    Due.is("what he has alike he does not change", alike.two(0, 1, 1), 1);
    alike.hearts(1, 0, 4);
    Due.is("both alike", alike.two(0, 1, 1), 0);
    x.tires(2, 9);
    Due.is("who is tired grows for less, but rests for more", x.two(1, 2, 1), 10);
    RotationOfFarmers none = Due.landOf("f000102;f030303;pc3;pw3;a00;a11;s1;");
    Due.is("each would change behind the other", none.two(0, 1, 19), NONE);
  }

  private static void twoRefused() {
    RotationOfFarmers x = Due.landOf("f202020;pw0;pf0;a00;");
    Due.is("with 30 years", x.two(0, 1, 30), 0);
    Due.refused(x, Due.NOBODY, "two, one twice", () -> x.two(0, 0, 1));
    Due.refused(x, Due.NOBODY, "two, no such other", () -> x.two(0, 2, 1));
    Due.refused(x, Due.NOBODY, "two, no such first", () -> x.two(2, 0, 1));
    Due.refused(x, Due.NOBODY, "two, first -1", () -> x.two(-1, 0, 1));
    Due.refused(x, Due.NOBODY, "two, other -1 and below", () -> x.two(0, -1, 0));
    Due.refused(x, Due.BELOW, "two 0", () -> x.two(0, 1, 0));
    Due.refused(x, Due.ROOM, "two 31", () -> x.two(0, 1, 31));
  }
}
