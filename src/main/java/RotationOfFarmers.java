/** Farms, farmers who are moved on each year, and what may be asked of them. */
public final class RotationOfFarmers {
  private static final int NONE = -9;
  private static final int FINE = 0;
  private static final int NOBODY = -1;
  private static final int OTHER = -2;
  private static final int STATE = -3;
  private static final int BELOW = -4;
  private static final int ROOM = -6;
  private static final long LONG_REFUSAL = 4000000000000000000L;

  private static final int MOST_FARMS = 6;
  private static final int MOST_FARMERS = 6;
  private static final int SORTS = 3;
  private static final int MOST_HEART = 30;
  private static final int MOST_FIGURE = 9;
  private static final int MOST_TIRED = 20;
  private static final int WORN_FROM = 10;
  private static final int REST = 5;
  private static final int MOST_STEP = 5;
  private static final int MOST_BARN = 9999;
  private static final int MOST_YEAR = 999;
  private static final int MOST_YEARS = 60;
  private static final int MOST_PLANNED = 30;
  private static final int MOST_FROST_YEARS = 7;
  private static final int LEAST_ODDS = 2;
  private static final int MOST_ODDS = 20;
  private static final int MOST_FROST_CORN = 999;
  private static final int MOST_LETTERS = 96;
  private static final int MOST_SIGN = 255;
  private static final int MOST_ROW = 16;
  private static final int MOST_ROW_NUMBER = 99;
  private static final int MOST_HUNDREDS = 20;
  private static final int YEARS_OF_A_HUNDRED = 10;

  private static final int WHIG = 0;
  private static final int TORY = 1;
  private static final int ROOTS = 2;
  private static final int CLOVER = 3;
  private static final int FALLOW = 4;
  private static final int MR_AMES = 5;
  private static final int KINDS = 6;
  private static final int SIGNLESS = 0x7fffffff;

  private final Land now;
  private final Land kept;
  private boolean hasKept;
  private final Land trial;
  private final Letters letters;
  private final Mind mind;
  private final int[] row;
  private int rowSize;
  private final int[] refusals;

  public RotationOfFarmers() {
    now = new Land();
    kept = new Land();
    trial = new Land();
    letters = new Letters();
    mind = new Mind();
    row = new int[MOST_ROW];
    refusals = new int[1 - ROOM];
  }

  public int letter(int c) {
    int wrong = firstOf(inRange(c, 0, MOST_SIGN), roomIf(!letters.isFull()), FINE);
    if (wrong != FINE) {
      return refuse(wrong);
    }
    letters.add(c);
    return letters.size;
  }

  public int land() {
    trial.become(now);
    int answer = letters.tellTo(trial);
    if (answer >= 0) {
      now.become(trial);
    }
    letters.size = 0;
    return answer;
  }

  public int farm(int farm, int what) {
    int wrong = firstOf(nobodyUnless(now.hasFarm(farm)), otherUnless(what, 4), FINE);
    if (wrong != FINE) {
      return refuse(wrong);
    }
    if (what == 3) {
      return now.greenOf(farm);
    }
    return what == 4 ? now.tenantOf(farm) : now.heartOf(farm, what);
  }

  public int farmer(int farmer, int what) {
    int wrong = firstOf(nobodyUnless(now.hasFarmer(farmer)), otherUnless(what, 5), FINE);
    if (wrong != FINE) {
      return refuse(wrong);
    }
    switch (what) {
      case 0:
        return now.kind[farmer];
      case 1:
        return now.figure[farmer];
      case 2:
        return now.tired[farmer];
      case 3:
        return now.place[farmer];
      case 4:
        return now.grownNow(farmer);
      default:
        return Kinds.tiring(now.kind[farmer]);
    }
  }

  public int sits(int farmer, int farm) {
    int wrong = nobodyUnless(now.hasFarmer(farmer) && now.hasFarm(farm));
    if (wrong != FINE) {
      return refuse(wrong);
    }
    int was = now.tenantOf(farm);
    now.seat(farmer, farm);
    return was;
  }

  public int leaves(int farmer) {
    if (!now.hasFarmer(farmer)) {
      return refuse(NOBODY);
    }
    int was = now.place[farmer];
    if (was == NONE) {
      return refuse(STATE);
    }
    now.place[farmer] = NONE;
    return was;
  }

  public int hearts(int farm, int sort, int v) {
    int wrong = firstOf(nobodyUnless(now.hasFarm(farm) && Land.hasSort(sort)), inRange(v, 0, MOST_HEART), FINE);
    if (wrong != FINE) {
      return refuse(wrong);
    }
    int was = now.heartOf(farm, sort);
    now.setHeart(farm, sort, v);
    return was;
  }

  public int steps(int v) {
    int wrong = inRange(v, 0, MOST_STEP);
    if (wrong != FINE) {
      return refuse(wrong);
    }
    int was = now.step;
    now.step = v;
    return was;
  }

  public int tires(int farmer, int v) {
    int wrong = firstOf(nobodyUnless(now.hasFarmer(farmer)), inRange(v, 0, MOST_TIRED), FINE);
    if (wrong != FINE) {
      return refuse(wrong);
    }
    int was = now.tired[farmer];
    now.tired[farmer] = v;
    return was;
  }

  public int turn(int farmer, int kind, int figure) {
    int wrong = firstOf(nobodyUnless(now.hasFarmer(farmer)), otherUnless(kind, KINDS - 1),
        inRange(figure, 0, MOST_FIGURE));
    if (wrong != FINE) {
      return refuse(wrong);
    }
    int was = 10 * now.kind[farmer] + now.figure[farmer];
    now.kind[farmer] = kind;
    now.figure[farmer] = figure;
    return was;
  }

  public int years(int n) {
    int wrong = firstOf(inRange(n, 1, MOST_YEARS), roomIf(now.hasYears(n)), FINE);
    if (wrong != FINE) {
      return refuse(wrong);
    }
    now.grownIn(n);
    return now.barn;
  }

  public int heartThen(int farm, int sort, int n) {
    int wrong = firstOf(nobodyUnless(now.hasFarm(farm) && Land.hasSort(sort)), inRange(n, 0, MOST_YEARS), FINE);
    return wrong != FINE ? refuse(wrong) : mind.after(now, n).heartOf(farm, sort);
  }

  public int farmerThen(int farmer, int n, int what) {
    int wrong = firstOf(nobodyUnless(now.hasFarmer(farmer)), inRange(n, 0, MOST_YEARS), otherUnless(what, 1));
    if (wrong != FINE) {
      return refuse(wrong);
    }
    Land then = mind.after(now, n);
    return what == 0 ? then.tired[farmer] : then.place[farmer];
  }

  public int barnThen(int n) {
    int wrong = inRange(n, 0, MOST_YEARS);
    return wrong != FINE ? refuse(wrong) : mind.after(now, n).barn;
  }

  public int greenest() {
    return now.greenestFarm();
  }

  public int lost(int what) {
    int wrong = otherUnless(what, 1);
    if (wrong != FINE) {
      return refuse(wrong);
    }
    return what == 0 ? mind.lostFarm(now) : mind.lostYear(now);
  }

  public int crop(int farm, int n) {
    int wrong = firstOf(nobodyUnless(farm == -1 || now.hasFarm(farm)), inRange(n, 1, MOST_YEARS), FINE);
    if (wrong != FINE) {
      return refuse(wrong);
    }
    return farm == -1 ? mind.grownOfAll(now, n) : mind.grownOn(now, farm, n);
  }

  public int bestStep(int n, int what) {
    int wrong = firstOf(inRange(n, 1, MOST_PLANNED), otherUnless(what, 1), FINE);
    if (wrong != FINE) {
      return refuse(wrong);
    }
    int step = mind.stepOfMost(now, n);
    return what == 0 ? step : mind.grownByStep(now, step, n);
  }

  public int send(int n) {
    int wrong = inRange(n, 1, MOST_PLANNED);
    return wrong != FINE ? refuse(wrong) : mind.farmerToSend(now, n);
  }

  public int change(int n) {
    int wrong = inRange(n, 1, MOST_PLANNED);
    return wrong != FINE ? refuse(wrong) : mind.pairToChange(now, n);
  }

  public int next(int farmer) {
    int wrong = nobodyUnless(farmer == -1 || now.hasFarmer(farmer));
    if (wrong != FINE) {
      return refuse(wrong);
    }
    mind.seating.plan(now);
    return farmer == -1 ? mind.seating.most() : mind.seating.seatOf(now, farmer);
  }

  public int feed(int farm, int what) {
    int wrong = firstOf(nobodyUnless(now.hasFarm(farm)), otherUnless(what, 1), FINE);
    if (wrong != FINE) {
      return refuse(wrong);
    }
    int kind = now.feedingKind(farm);
    return what == 0 ? kind : now.greenFedBy(farm, kind);
  }

  public int settles() {
    return mind.settledYear(now);
  }

  public int round() {
    return mind.roundYear(now);
  }

  public int free(int what) {
    int wrong = otherUnless(what, 2);
    if (wrong != FINE) {
      return refuse(wrong);
    }
    if (what == 0) {
      return now.freeFarms();
    }
    return what == 1 ? now.idleFarmers() : now.wornFarmers();
  }

  public int inHeart() {
    int lost = mind.lostYear(now);
    return lost == NONE ? MOST_YEARS + 1 : lost;
  }

  public int even() {
    return now.mostGreen() - now.leastGreen();
  }

  public int two(int a, int b, int n) {
    int wrong = firstOf(nobodyUnless(now.hasFarmer(a) && now.hasFarmer(b) && a != b),
        inRange(n, 1, MOST_PLANNED), FINE);
    return wrong != FINE ? refuse(wrong) : mind.restingPair(now, a, b, n);
  }

  public long frost(int n, int t, int v, int part) {
    int wrong = FINE;
    if (n < 0 || v < 0 || t < LEAST_ODDS) {
      wrong = BELOW;
    } else if (n > MOST_FROST_YEARS || t > MOST_ODDS || v > MOST_FROST_CORN) {
      wrong = ROOM;
    } else {
      wrong = otherUnless(part, 1);
    }
    if (wrong != FINE) {
      return LONG_REFUSAL - refuse(wrong);
    }
    long below = 1;
    for (int i = 0; i < n; i++) {
      below *= t;
    }
    return termOf(mind.waysThroughFrost(now, n, t, v), below, part);
  }

  public long mean(int part) {
    int wrong = otherUnless(part, 1);
    if (wrong != FINE) {
      return LONG_REFUSAL - refuse(wrong);
    }
    return termOf(now.greenOfAll(), Math.max(1, now.farms), part);
  }

  public int whoSat(int farm, int farmer, int what) {
    int wrong = firstOf(nobodyUnless(now.hasFarm(farm) && now.hasFarmer(farmer)), otherUnless(what, 1), FINE);
    if (wrong != FINE) {
      return refuse(wrong);
    }
    int guesses = what == 0 ? KINDS : MOST_FIGURE + 1;
    int bits = 0;
    for (int guess = 0; guess < guesses; guess++) {
      int kind = what == 0 ? guess : now.kind[farmer];
      int figure = what == 0 ? now.figure[farmer] : guess;
      mind.suppose(now, farmer, kind, figure);
      bits |= greensAreTheRow(farm) ? 1 << guess : 0;
    }
    return bits;
  }

  public int row(int v) {
    int wrong = firstOf(inRange(v, 0, MOST_ROW_NUMBER), roomIf(rowSize < MOST_ROW), FINE);
    if (wrong != FINE) {
      return refuse(wrong);
    }
    row[rowSize] = v;
    rowSize++;
    return rowSize;
  }

  public int judge() {
    int answer = firstWrongCrop();
    rowSize = 0;
    return answer;
  }

  public int clear() {
    int had = rowSize;
    rowSize = 0;
    return had;
  }

  public int lots(int n, int z, int what) {
    int wrong = firstOf(inRange(n, 1, MOST_HUNDREDS), otherUnless(what, 1), FINE);
    return wrong != FINE ? refuse(wrong) : mind.sumOfHundreds(now, n, z, what == 0);
  }

  public int image() {
    kept.become(now);
    hasKept = true;
    return now.year;
  }

  public int on() {
    if (!hasKept) {
      return refuse(STATE);
    }
    now.become(kept);
    return now.year;
  }

  public int count(int what) {
    if (what > 10 && what - 10 < refusals.length) {
      return refusals[what - 10];
    }
    switch (what) {
      case 0:
        return now.farms;
      case 1:
        return now.farmers;
      case 2:
        return now.year;
      case 3:
        return now.step;
      case 4:
        return now.barn;
      case 5:
        return now.greenOfAll();
      case 6:
        return rowSize;
      case 7:
        return letters.size;
      default:
        return NONE;
    }
  }

  private boolean greensAreTheRow(int farm) {
    for (int i = 0; i < rowSize; i++) {
      if (i > 0) {
        mind.then.passYear();
      }
      if (mind.then.greenOf(farm) != row[i]) {
        return false;
      }
    }
    return true;
  }

  private int firstWrongCrop() {
    Land then = mind.after(now, 0);
    for (int i = 0; i < rowSize; i++) {
      then.passYear();
      if (then.grown != row[i]) {
        return i;
      }
    }
    return NONE;
  }

  private int refuse(int wrong) {
    int i = -wrong;
    if (i >= 0 && i < refusals.length) {
      refusals[i]++;
    }
    return wrong;
  }

  private static int firstOf(int a, int b, int c) {
    if (a != FINE) {
      return a;
    }
    return b != FINE ? b : c;
  }

  private static int nobodyUnless(boolean there) {
    return there ? FINE : NOBODY;
  }

  private static int otherUnless(int what, int most) {
    return what >= 0 && what <= most ? FINE : OTHER;
  }

  private static int roomIf(boolean room) {
    return room ? FINE : ROOM;
  }

  private static int inRange(int v, int least, int most) {
    if (v < least) {
      return BELOW;
    }
    return v > most ? ROOM : FINE;
  }

  private static long termOf(long above, long below, int part) {
    long a = above;
    long b = below;
    // Euclid's steps on numbers below 2^31 are fewer than 50.
    for (int i = 0; i < 100 && b != 0; i++) {
      long rest = a % b;
      a = b;
      b = rest;
    }
    long divisor = Math.max(1L, a);
    return (part == 0 ? above : below) / divisor;
  }

  /** What each kind does. A kind's change of the hearts stands for the whole change of the kind it is under. */
  private static final class Kinds {
    private static final int[] GIVING = {
      -3, 1, 0,
      0, -3, 1,
      1, 0, -4,
      3, -1, 0,
      0, 0, 0,
      2, 0, 0,
    };
    private static final int[] TIRING = {2, 1, 2, 1, 3, 4};

    static int ofLetter(int c) {
      return "wtrcfm".indexOf((char) c);
    }

    static int growing(int kind, int first, int second) {
      switch (kind) {
        case WHIG:
          return first / 2;
        case TORY:
          return second / 2;
        case ROOTS:
          return first / 2 + 3;
        case CLOVER:
          return second / 2 / 2;
        default:
          return 0;
      }
    }

    static int giving(int kind, int figure, int sort) {
      int i = SORTS * kind + sort;
      int ofKind = i >= 0 && i < GIVING.length ? GIVING[i] : 0;
      boolean byFigure = kind == FALLOW || kind == MR_AMES;
      return byFigure ? ofKind + figure / 3 + 1 : ofKind;
    }

    static int tiring(int kind) {
      return kind >= 0 && kind < TIRING.length ? TIRING[kind] : 0;
    }
  }

  /** All that an image keeps; what grew in the year last passed is told beside it and never copied. */
  private static final class Land {
    int farms;
    int farmers;
    int step;
    int barn;
    int year;
    int grown;
    final int[] heart;
    final int[] grownThere;
    final int[] kind;
    final int[] figure;
    final int[] tired;
    final int[] place;
    final int[] grownBy;

    Land() {
      step = 1;
      heart = new int[MOST_FARMS * SORTS];
      grownThere = new int[MOST_FARMS];
      kind = new int[MOST_FARMERS];
      figure = new int[MOST_FARMERS];
      tired = new int[MOST_FARMERS];
      place = new int[MOST_FARMERS];
      grownBy = new int[MOST_FARMERS];
    }

    void become(Land other) {
      farms = other.farms;
      farmers = other.farmers;
      step = other.step;
      barn = other.barn;
      year = other.year;
      System.arraycopy(other.heart, 0, heart, 0, heart.length);
      System.arraycopy(other.kind, 0, kind, 0, kind.length);
      System.arraycopy(other.figure, 0, figure, 0, figure.length);
      System.arraycopy(other.tired, 0, tired, 0, tired.length);
      System.arraycopy(other.place, 0, place, 0, place.length);
    }

    boolean hasFarm(int farm) {
      return farm >= 0 && farm < farms;
    }

    boolean hasFarmer(int farmer) {
      return farmer >= 0 && farmer < farmers;
    }

    static boolean hasSort(int sort) {
      return sort >= 0 && sort < SORTS;
    }

    boolean hasYears(int n) {
      return n <= MOST_YEAR - year;
    }

    int heartOf(int farm, int sort) {
      int i = SORTS * farm + sort;
      return i >= 0 && i < heart.length ? heart[i] : 0;
    }

    void setHeart(int farm, int sort, int v) {
      int i = SORTS * farm + sort;
      if (i >= 0 && i < heart.length) {
        heart[i] = v;
      }
    }

    void addFarm(int first, int second, int third) {
      if (farms >= MOST_FARMS) {
        return;
      }
      setHeart(farms, 0, first);
      setHeart(farms, 1, second);
      setHeart(farms, 2, third);
      farms++;
    }

    void addFarmer(int itsKind, int itsFigure) {
      if (farmers >= MOST_FARMERS) {
        return;
      }
      kind[farmers] = itsKind;
      figure[farmers] = itsFigure;
      tired[farmers] = 0;
      place[farmers] = NONE;
      farmers++;
    }

    void seat(int farmer, int farm) {
      int tenant = tenantOf(farm);
      if (tenant != NONE) {
        place[tenant] = NONE;
      }
      place[farmer] = farm;
    }

    void exchange(int a, int b) {
      int placeOfA = place[a];
      place[a] = place[b];
      place[b] = placeOfA;
    }

    int tenantOf(int farm) {
      for (int f = 0; f < farmers; f++) {
        if (place[f] == farm) {
          return f;
        }
      }
      return NONE;
    }

    int greenOf(int farm) {
      return heartOf(farm, 0) + heartOf(farm, 1) + heartOf(farm, 2);
    }

    int greenOfAll() {
      int sum = 0;
      for (int farm = 0; farm < farms; farm++) {
        sum += greenOf(farm);
      }
      return sum;
    }

    int greenestFarm() {
      int greenest = NONE;
      for (int farm = 0; farm < farms; farm++) {
        if (greenest == NONE || greenOf(farm) > greenOf(greenest)) {
          greenest = farm;
        }
      }
      return greenest;
    }

    int mostGreen() {
      int greenest = greenestFarm();
      return greenest == NONE ? 0 : greenOf(greenest);
    }

    int leastGreen() {
      int least = mostGreen();
      for (int farm = 0; farm < farms; farm++) {
        least = Math.min(least, greenOf(farm));
      }
      return least;
    }

    int firstBarrenFarm() {
      for (int farm = 0; farm < farms; farm++) {
        if (heartOf(farm, 0) == 0 || heartOf(farm, 1) == 0 || heartOf(farm, 2) == 0) {
          return farm;
        }
      }
      return NONE;
    }

    int freeFarms() {
      int bits = (1 << farms) - 1;
      for (int f = 0; f < farmers; f++) {
        if (place[f] != NONE) {
          bits &= ~(1 << place[f]);
        }
      }
      return bits;
    }

    int idleFarmers() {
      int bits = 0;
      for (int f = 0; f < farmers; f++) {
        bits |= place[f] == NONE ? 1 << f : 0;
      }
      return bits;
    }

    int wornFarmers() {
      int bits = 0;
      for (int f = 0; f < farmers; f++) {
        bits |= isWorn(f) ? 1 << f : 0;
      }
      return bits;
    }

    boolean isWorn(int farmer) {
      return tired[farmer] >= WORN_FROM;
    }

    int grownAt(int farmer, int farm) {
      return isWorn(farmer) ? 0 : Kinds.growing(kind[farmer], heartOf(farm, 0), heartOf(farm, 1));
    }

    int grownNow(int farmer) {
      return hasFarm(place[farmer]) ? grownAt(farmer, place[farmer]) : 0;
    }

    int feedingKind(int farm) {
      int best = 0;
      for (int k = 1; k < KINDS; k++) {
        if (greenFedBy(farm, k) > greenFedBy(farm, best)) {
          best = k;
        }
      }
      return best;
    }

    int greenFedBy(int farm, int itsKind) {
      int green = 0;
      for (int sort = 0; sort < SORTS; sort++) {
        green += asHeart(heartOf(farm, sort) + Kinds.giving(itsKind, MOST_FIGURE, sort));
      }
      return green;
    }

    int grownIn(int n) {
      int sum = 0;
      for (int i = 0; i < n; i++) {
        passYear();
        sum += grown;
      }
      return sum;
    }

    void passYear() {
      year++;
      grown = 0;
      int untilled = freeFarms();
      for (int farm = 0; farm < farms; farm++) {
        grownThere[farm] = 0;
        if ((untilled & 1 << farm) != 0) {
          lieUntilled(farm);
        }
      }
      for (int f = 0; f < farmers; f++) {
        grownBy[f] = 0;
        if (!hasFarm(place[f]) || isWorn(f)) {
          tired[f] = Math.max(0, tired[f] - REST);
        } else {
          till(f, place[f]);
        }
      }
      barn = Math.min(MOST_BARN, barn + grown);
      moveOn();
    }

    boolean isAsFreshAs(Land other) {
      for (int i = 0; i < SORTS * farms; i++) {
        if (heart[i] != other.heart[i]) {
          return false;
        }
      }
      for (int f = 0; f < farmers; f++) {
        if (tired[f] != other.tired[f]) {
          return false;
        }
      }
      return true;
    }

    boolean isSeatedAs(Land other) {
      for (int f = 0; f < farmers; f++) {
        if (place[f] != other.place[f]) {
          return false;
        }
      }
      return true;
    }

    private void lieUntilled(int farm) {
      for (int sort = 0; sort < SORTS; sort++) {
        setHeart(farm, sort, asHeart(heartOf(farm, sort) + 1));
      }
    }

    private void till(int farmer, int farm) {
      int corn = Kinds.growing(kind[farmer], heartOf(farm, 0), heartOf(farm, 1));
      grownBy[farmer] = corn;
      grownThere[farm] = corn;
      grown += corn;
      for (int sort = 0; sort < SORTS; sort++) {
        int more = Kinds.giving(kind[farmer], figure[farmer], sort);
        setHeart(farm, sort, asHeart(heartOf(farm, sort) + more));
      }
      tired[farmer] = Math.min(MOST_TIRED, tired[farmer] + Kinds.tiring(kind[farmer]));
    }

    private void moveOn() {
      for (int f = 0; f < farmers; f++) {
        if (place[f] != NONE && farms > 0) {
          place[f] = (place[f] + step) % farms;
        }
      }
    }

    private static int asHeart(int v) {
      return Math.max(0, Math.min(MOST_HEART, v));
    }
  }

  /** The letters told so far, and how they become land. */
  private static final class Letters {
    final int[] told;
    int size;

    Letters() {
      told = new int[MOST_LETTERS];
    }

    boolean isFull() {
      return size >= told.length;
    }

    void add(int c) {
      if (size < told.length) {
        told[size] = c;
        size++;
      }
    }

    int tellTo(Land land) {
      int fault = placeOfWrongLetter();
      if (fault != NONE) {
        return -1000 - fault;
      }
      int statements = 0;
      for (int place = 0; place < size; place += 1 + shapeBehind(told[place]).length()) {
        if (!comes(land, place)) {
          return -2000 - place;
        }
        statements++;
      }
      return statements;
    }

    private int placeOfWrongLetter() {
      String shape = "";
      int seen = 0;
      for (int place = 0; place < size; place++) {
        if (seen == shape.length()) {
          shape = shapeBehind(told[place]);
          seen = 0;
          if (shape.isEmpty()) {
            return place;
          }
        } else if (fits(told[place], shape.charAt(seen))) {
          seen++;
        } else {
          return place;
        }
      }
      return size == 0 || seen < shape.length() ? size : NONE;
    }

    private static String shapeBehind(int c) {
      switch (c) {
        case 'f':
          return "dddddd;";
        case 'p':
          return "kd;";
        case 'a':
        case 'y':
          return "dd;";
        case 'o':
        case 's':
          return "d;";
        case 'h':
          return "dddd;";
        default:
          return "";
      }
    }

    private static boolean fits(int c, char sign) {
      if (sign == 'd') {
        return c >= '0' && c <= '9';
      }
      return sign == 'k' ? Kinds.ofLetter(c) >= 0 : c == sign;
    }

    private boolean comes(Land land, int place) {
      switch (told[place]) {
        case 'f':
          return farmComes(land, place);
        case 'p':
          return farmerComes(land, place);
        case 'a':
          return seatComes(land, digit(place + 1), digit(place + 2));
        case 'o':
          return leaveComes(land, digit(place + 1));
        case 'h':
          return heartComes(land, digit(place + 1), digit(place + 2), number(place + 3));
        case 's':
          return stepComes(land, digit(place + 1));
        default:
          return yearsCome(land, number(place + 1));
      }
    }

    private boolean farmComes(Land land, int place) {
      int first = number(place + 1);
      int second = number(place + 3);
      int third = number(place + 5);
      if (land.farms >= MOST_FARMS || first > MOST_HEART || second > MOST_HEART || third > MOST_HEART) {
        return false;
      }
      land.addFarm(first, second, third);
      return true;
    }

    private boolean farmerComes(Land land, int place) {
      if (land.farmers >= MOST_FARMERS) {
        return false;
      }
      land.addFarmer(Kinds.ofLetter(toldAt(place + 1)), digit(place + 2));
      return true;
    }

    private static boolean seatComes(Land land, int farmer, int farm) {
      if (!land.hasFarmer(farmer) || !land.hasFarm(farm)) {
        return false;
      }
      land.seat(farmer, farm);
      return true;
    }

    private static boolean leaveComes(Land land, int farmer) {
      if (!land.hasFarmer(farmer)) {
        return false;
      }
      land.place[farmer] = NONE;
      return true;
    }

    private static boolean heartComes(Land land, int farm, int sort, int v) {
      if (!land.hasFarm(farm) || !Land.hasSort(sort) || v > MOST_HEART) {
        return false;
      }
      land.setHeart(farm, sort, v);
      return true;
    }

    private static boolean stepComes(Land land, int v) {
      if (v > MOST_STEP) {
        return false;
      }
      land.step = v;
      return true;
    }

    private static boolean yearsCome(Land land, int n) {
      if (n < 1 || n > MOST_YEARS || !land.hasYears(n)) {
        return false;
      }
      for (int i = 0; i < n; i++) {
        land.passYear();
      }
      return true;
    }

    private int toldAt(int place) {
      return place >= 0 && place < size ? told[place] : 0;
    }

    private int digit(int place) {
      return toldAt(place) - '0';
    }

    private int number(int place) {
      return 10 * digit(place) + digit(place + 1);
    }
  }

  /** Years that pass in thought alone: always on a copy of the land as it is now. */
  private static final class Mind {
    final Land then;
    final Seating seating;
    private final Land before;
    private final int[] cornOfYear;
    private final int[] worth;
    private int seed;

    Mind() {
      then = new Land();
      before = new Land();
      seating = new Seating();
      cornOfYear = new int[MOST_FROST_YEARS];
      worth = new int[8];
    }

    Land after(Land now, int n) {
      then.become(now);
      then.grownIn(n);
      return then;
    }

    void suppose(Land now, int farmer, int kind, int figure) {
      then.become(now);
      then.kind[farmer] = kind;
      then.figure[farmer] = figure;
    }

    int lostYear(Land now) {
      then.become(now);
      for (int n = 0; n <= MOST_YEARS; n++) {
        if (n > 0) {
          then.passYear();
        }
        if (then.firstBarrenFarm() != NONE) {
          return n;
        }
      }
      return NONE;
    }

    int lostFarm(Land now) {
      return lostYear(now) == NONE ? NONE : then.firstBarrenFarm();
    }

    int grownOfAll(Land now, int n) {
      then.become(now);
      return then.grownIn(n);
    }

    int grownOn(Land now, int farm, int n) {
      then.become(now);
      int sum = 0;
      for (int i = 0; i < n; i++) {
        then.passYear();
        sum += then.grownThere[farm];
      }
      return sum;
    }

    int grownByStep(Land now, int step, int n) {
      then.become(now);
      then.step = step;
      return then.grownIn(n);
    }

    int stepOfMost(Land now, int n) {
      int best = 0;
      int most = -1;
      for (int step = 0; step <= MOST_STEP; step++) {
        int corn = grownByStep(now, step, n);
        if (corn > most) {
          most = corn;
          best = step;
        }
      }
      return best;
    }

    int farmerToSend(Land now, int n) {
      int most = grownOfAll(now, n);
      int best = NONE;
      for (int f = 0; f < now.farmers; f++) {
        then.become(now);
        then.place[f] = NONE;
        int corn = then.grownIn(n);
        if (corn > most) {
          most = corn;
          best = f;
        }
      }
      return best;
    }

    int pairToChange(Land now, int n) {
      int most = grownOfAll(now, n);
      int best = NONE;
      for (int a = 0; a < now.farmers; a++) {
        for (int b = a + 1; b < now.farmers; b++) {
          then.become(now);
          then.exchange(a, b);
          int corn = then.grownIn(n);
          if (corn > most) {
            most = corn;
            best = 10 * a + b;
          }
        }
      }
      return best;
    }

    int settledYear(Land now) {
      then.become(now);
      for (int n = 0; n <= MOST_YEARS; n++) {
        before.become(then);
        then.passYear();
        if (then.isAsFreshAs(before)) {
          return n;
        }
      }
      return NONE;
    }

    int roundYear(Land now) {
      then.become(now);
      for (int n = 1; n <= MOST_YEARS; n++) {
        then.passYear();
        if (then.isSeatedAs(now)) {
          return n;
        }
      }
      return NONE;
    }

    /** Of a choice, bit 1 tells whether a rests and bit 0 whether b does. */
    int restingPair(Land now, int a, int b, int n) {
      for (int choice = 0; choice < 4; choice++) {
        weigh(now, a, b, n, choice);
      }
      for (int choice = 0; choice < 4; choice++) {
        boolean aStays = worth[2 * choice] >= worth[2 * (choice ^ 2)];
        boolean bStays = worth[2 * choice + 1] >= worth[2 * (choice ^ 1) + 1];
        if (aStays && bStays) {
          return 10 * (choice >> 1) + (choice & 1);
        }
      }
      return NONE;
    }

    private void weigh(Land now, int a, int b, int n, int choice) {
      then.become(now);
      if ((choice & 2) != 0) {
        then.place[a] = NONE;
      }
      if ((choice & 1) != 0) {
        then.place[b] = NONE;
      }
      int cornOfA = 0;
      int cornOfB = 0;
      for (int i = 0; i < n; i++) {
        then.passYear();
        cornOfA += then.grownBy[a];
        cornOfB += then.grownBy[b];
      }
      worth[2 * choice] = cornOfA - then.tired[a];
      worth[2 * choice + 1] = cornOfB - then.tired[b];
    }

    /** Of t to the n equal ways in which n years may go, those in which v or more grows. */
    long waysThroughFrost(Land now, int n, int t, int v) {
      then.become(now);
      int years = Math.min(n, cornOfYear.length);
      for (int i = 0; i < years; i++) {
        then.passYear();
        cornOfYear[i] = then.grown;
      }
      long ways = 0;
      for (int mild = 0; mild < 1 << years; mild++) {
        int corn = 0;
        long waysToThis = 1;
        for (int i = 0; i < years; i++) {
          if ((mild & 1 << i) != 0) {
            corn += cornOfYear[i];
            waysToThis *= t - 1;
          }
        }
        ways += corn >= v ? waysToThis : 0;
      }
      return ways;
    }

    int sumOfHundreds(Land now, int n, int z, boolean ofCorn) {
      seed = z;
      int sum = 0;
      for (int i = 0; i < n; i++) {
        then.become(now);
        for (int k = 0; k < SORTS * then.farms; k++) {
          then.heart[k] = draw(MOST_HEART + 1);
        }
        int corn = then.grownIn(YEARS_OF_A_HUNDRED);
        sum += ofCorn ? corn : then.greenOfAll();
      }
      return sum;
    }

    private int draw(int m) {
      seed = seed * 1664525 + 1013904223;
      int without = (seed & SIGNLESS) / 256;
      return m > 0 ? without % m : 0;
    }
  }

  /** The seats by which most grows in one year: the best of the farmers from one on, by the farms taken ahead. */
  private static final class Seating {
    private static final int SETS = 1 << MOST_FARMS;
    private final int[] best;

    Seating() {
      best = new int[(MOST_FARMERS + 1) * SETS];
    }

    void plan(Land land) {
      int sets = 1 << land.farms;
      for (int taken = 0; taken < sets; taken++) {
        best[SETS * land.farmers + taken] = 0;
      }
      for (int f = land.farmers - 1; f >= 0; f--) {
        for (int taken = 0; taken < sets; taken++) {
          best[SETS * f + taken] = mostBehind(f, taken);
        }
        for (int farm = 0; farm < land.farms; farm++) {
          planSeat(f, farm, land.grownAt(f, farm), sets);
        }
      }
    }

    private void planSeat(int farmer, int farm, int corn, int sets) {
      for (int taken = 0; taken < sets; taken++) {
        if (isOpen(farm, taken)) {
          int most = corn + mostBehind(farmer, taken | 1 << farm);
          best[SETS * farmer + taken] = Math.max(best[SETS * farmer + taken], most);
        }
      }
    }

    int most() {
      return best[0];
    }

    int seatOf(Land land, int farmer) {
      int taken = 0;
      int seat = NONE;
      for (int f = 0; f <= farmer; f++) {
        seat = firstSeat(land, f, taken);
        taken |= seat == NONE ? 0 : 1 << seat;
      }
      return seat;
    }

    private int firstSeat(Land land, int farmer, int taken) {
      for (int farm = 0; farm < land.farms; farm++) {
        if (isOpen(farm, taken)) {
          int most = land.grownAt(farmer, farm) + mostBehind(farmer, taken | 1 << farm);
          if (most == best[SETS * farmer + taken]) {
            return farm;
          }
        }
      }
      return NONE;
    }

    private int mostBehind(int farmer, int taken) {
      return best[SETS * (farmer + 1) + taken];
    }

    private static boolean isOpen(int farm, int taken) {
      return (taken & 1 << farm) == 0;
    }
  }
}
