import java.util.Random;

/** Long runs of calls by lot: the program and the model must answer alike and stay in the same state. */
public final class AgainstModelTest {
  private static final int RUNS = 2500;
  private static final int MOST_CALLS = 512;
  /** What a look at the whole state asks at most. */
  private static final int LOOK = 20 + 6 * 5 + 6 * 6;
  /** Eight statements, a letter that spoils them, and land. */
  private static final int LONGEST_STEP = 8 * 8 + 1 + 1;
  private static final String[][] CALLS = {
    {"letter", "0..255"}, {"land"}, {"farm", "farm", "0..4"}, {"farmer", "farmer", "0..5"},
    {"sits", "farmer", "farm"}, {"leaves", "farmer"}, {"hearts", "farm", "0..2", "0..30"}, {"steps", "0..5"},
    {"tires", "farmer", "0..20"}, {"turn", "farmer", "0..5", "0..9"}, {"years", "1..5"}, {"years", "1..60"},
    {"heartThen", "farm", "0..2", "0..60"}, {"farmerThen", "farmer", "0..60", "0..1"}, {"barnThen", "0..60"},
    {"greenest"}, {"lost", "0..1"}, {"crop", "all|farm", "1..60"}, {"bestStep", "1..30", "0..1"}, {"send", "1..30"},
    {"change", "1..30"}, {"next", "all|farmer"}, {"feed", "farm", "0..1"}, {"settles"}, {"round"}, {"free", "0..2"},
    {"inHeart"}, {"even"}, {"two", "farmer", "farmer", "1..30"}, {"frost", "0..7", "2..20", "0..120", "0..1"},
    {"frost", "0..7", "2..20", "0..999", "0..1"}, {"mean", "0..1"}, {"whoSat", "farm", "farmer", "0..1"},
    {"row", "0..99"}, {"judge"}, {"clear"}, {"lots", "1..20", "any", "0..1"}, {"image"}, {"on"}, {"count", "0..17"}
  };

  private final Random lot;
  private final String name;
  private final RotationOfFarmers x = new RotationOfFarmers();
  private final Model m = new Model();
  private int calls;

  private AgainstModelTest(int seed) {
    lot = new Random(seed);
    name = "run " + seed;
  }

  public static void main(String[] args) {
    for (int seed = 0; seed < RUNS; seed++) {
      new AgainstModelTest(seed).run();
    }
    Due.end("AgainstModelTest");
  }

  private void run() {
    int length = LOOK + lot.nextInt(MOST_CALLS - LOOK - LONGEST_STEP - LOOK);
    tell(startingText());
    while (calls < length) {
      if (lot.nextInt(40) == 0) {
        tell(lot.nextInt(3) == 0 ? spoilt(text()) : text());
      } else if (lot.nextInt(30) == 0) {
        tellRow();
      } else {
        compare(CALLS[lot.nextInt(CALLS.length)]);
      }
      if (lot.nextInt(20) == 0 && calls + LOOK < length) {
        compareStates();
      }
    }
    compareStates();
  }

  private void tell(String text) {
    for (int i = 0; i < text.length() && i < 97; i++) {
      same("letter " + (int) text.charAt(i), x.letter(text.charAt(i)), m.letter(text.charAt(i)));
    }
    same("land of " + text, x.land(), m.land());
  }

  /** Fills the row with what is so, and sometimes with one number that is not. */
  private void tellRow() {
    same("clear", x.clear(), m.clear());
    boolean ofGreen = !m.s.farms.isEmpty() && lot.nextBoolean();
    int farm = ofGreen ? lot.nextInt(m.s.farms.size()) : 0;
    int size = lot.nextInt(17);
    int spoilt = lot.nextInt(24);
    for (int i = 0; i < size; i++) {
      int v = ofGreen ? m.s.after(i).green(farm) : m.s.after(i + 1).grew();
      int told = Math.min(99, i == spoilt ? v + 1 : v);
      same("row " + told, x.row(told), m.row(told));
    }
    if (!ofGreen) {
      same("judge", x.judge(), m.judge());
    } else if (!m.s.farmers.isEmpty()) {
      int farmer = lot.nextInt(m.s.farmers.size());
      for (int what = 0; what < 2; what++) {
        same("whoSat " + farm + " " + farmer + " " + what, x.whoSat(farm, farmer, what),
            m.whoSat(farm, farmer, what));
      }
    }
  }

  private String startingText() {
    StringBuilder b = new StringBuilder();
    int farms = lot.nextInt(7);
    int farmers = lot.nextInt(7);
    for (int i = 0; i < farms; i++) {
      b.append(farmText());
    }
    for (int i = 0; i < farmers; i++) {
      b.append('p').append(Model.LETTERS.charAt(lot.nextInt(6))).append(lot.nextInt(10)).append(';');
    }
    for (int i = 0; i < farmers && farms > 0 && b.length() < 92; i++) {
      if (lot.nextInt(4) > 0) {
        b.append('a').append(i).append(lot.nextInt(farms)).append(';');
      }
    }
    return b.toString();
  }

  private String farmText() {
    return "f" + twoDigits(lot.nextInt(31)) + twoDigits(lot.nextInt(31)) + twoDigits(lot.nextInt(31)) + ";";
  }

  private static String twoDigits(int v) {
    return "" + v / 10 + v % 10;
  }

  private String text() {
    StringBuilder b = new StringBuilder();
    int statements = 1 + lot.nextInt(8);
    for (int i = 0; i < statements; i++) {
      b.append(statement());
    }
    return b.toString();
  }

  private String statement() {
    int wide = lot.nextInt(20) == 0 ? 10 : Math.max(1, m.s.farmers.size());
    int broad = lot.nextInt(20) == 0 ? 10 : Math.max(1, m.s.farms.size());
    switch (lot.nextInt(7)) {
      case 0:
        return lot.nextInt(12) == 0 ? "f" + twoDigits(lot.nextInt(40)) + "0033;" : farmText();
      case 1:
        return "p" + Model.LETTERS.charAt(lot.nextInt(6)) + lot.nextInt(10) + ";";
      case 2:
        return "a" + lot.nextInt(wide) + lot.nextInt(broad) + ";";
      case 3:
        return "o" + lot.nextInt(wide) + ";";
      case 4:
        return "h" + lot.nextInt(broad) + lot.nextInt(lot.nextInt(9) == 0 ? 5 : 3) + twoDigits(lot.nextInt(33)) + ";";
      case 5:
        return "s" + lot.nextInt(lot.nextInt(9) == 0 ? 10 : 6) + ";";
      default:
        return "y" + twoDigits(lot.nextInt(lot.nextInt(9) == 0 ? 70 : 20)) + ";";
    }
  }

  private String spoilt(String text) {
    int place = lot.nextInt(text.length());
    String letters = "fpaohsy0123456789;wtrcm,\u00ff";
    char c = letters.charAt(lot.nextInt(letters.length()));
    switch (lot.nextInt(3)) {
      case 0:
        return text.substring(0, place);
      case 1:
        return text.substring(0, place) + c + text.substring(place + 1);
      default:
        return text.substring(0, place) + c + text.substring(place);
    }
  }

  /** Mostly from least to most, sometimes just outside, seldom far away. */
  private int about(int least, int most) {
    int far = lot.nextInt(200);
    if (far == 0) {
      return Integer.MIN_VALUE + lot.nextInt(2);
    }
    if (far == 1) {
      return Integer.MAX_VALUE - lot.nextInt(2);
    }
    if (lot.nextInt(12) == 0) {
      return lot.nextBoolean() ? least - 1 : most + 1;
    }
    return least + lot.nextInt(Math.max(1, most - least + 1));
  }

  /** One call of both, its arguments by lot: "farm" and "farmer" stand for theirs, "all" for -1 too. */
  private void compare(String[] call) {
    int[] all = new int[call.length - 1];
    for (int i = 0; i < all.length; i++) {
      all[i] = argument(call[i + 1]);
    }
    StringBuilder told = new StringBuilder(call[0]);
    for (int a : all) {
      told.append(' ').append(a);
    }
    same(told.toString(), answer(x, call[0], all), answer(m, call[0], all));
  }

  private int argument(String range) {
    switch (range) {
      case "farm":
        return about(0, m.s.farms.size() - 1);
      case "all|farm":
        return about(-1, m.s.farms.size() - 1);
      case "farmer":
        return about(0, m.s.farmers.size() - 1);
      case "all|farmer":
        return about(-1, m.s.farmers.size() - 1);
      case "any":
        return lot.nextInt();
      default:
        int dots = range.indexOf("..");
        return about(Integer.parseInt(range.substring(0, dots)), Integer.parseInt(range.substring(dots + 2)));
    }
  }

  private static long answer(Object one, String name, int[] all) {
    Class<?>[] types = new Class<?>[all.length];
    Object[] arguments = new Object[all.length];
    for (int i = 0; i < all.length; i++) {
      types[i] = int.class;
      arguments[i] = all[i];
    }
    try {
      return ((Number) one.getClass().getDeclaredMethod(name, types).invoke(one, arguments)).longValue();
    } catch (ReflectiveOperationException e) {
      throw new IllegalStateException(name, e);
    }
  }

  private void same(String call, long got, long due) {
    calls++;
    Due.is(name + ", call " + calls + ", " + call, got, due);
  }

  private void compareStates() {
    for (int what = -1; what <= 18; what++) {
      same("count " + what, x.count(what), m.count(what));
    }
    for (int farm = 0; farm < m.s.farms.size(); farm++) {
      for (int what = 0; what < 5; what++) {
        same("farm " + farm + " " + what, x.farm(farm, what), m.farm(farm, what));
      }
    }
    for (int farmer = 0; farmer < m.s.farmers.size(); farmer++) {
      for (int what = 0; what < 6; what++) {
        same("farmer " + farmer + " " + what, x.farmer(farmer, what), m.farmer(farmer, what));
      }
    }
  }
}
