import java.math.BigInteger;
import java.util.ArrayList;
import java.util.List;

/**
 * The document once more, written to be compared with the program: objects instead of rows, every question asked the
 * slowest way.
 */
final class Model {
  static final int NONE = -9;

  abstract static class Kind {
    abstract int grows(int[] h);

    abstract int[] gives(int figure);

    abstract int tires();
  }

  static class Whig extends Kind {
    int grows(int[] h) {
      return h[0] / 2;
    }

    int[] gives(int figure) {
      return new int[] {-3, 1, 0};
    }

    int tires() {
      return 2;
    }
  }

  static class Tory extends Whig {
    int grows(int[] h) {
      return h[1] / 2;
    }

    int[] gives(int figure) {
      return new int[] {0, -3, 1};
    }

    int tires() {
      return 1;
    }
  }

  static class Roots extends Whig {
    int grows(int[] h) {
      return super.grows(h) + 3;
    }

    int[] gives(int figure) {
      return new int[] {1, 0, -4};
    }
  }

  static class Clover extends Tory {
    int grows(int[] h) {
      return super.grows(h) / 2;
    }

    int[] gives(int figure) {
      return new int[] {3, -1, 0};
    }
  }

  static class Fallow extends Clover {
    int grows(int[] h) {
      return 0;
    }

    int[] gives(int figure) {
      int more = figure / 3 + 1;
      return new int[] {more, more, more};
    }

    int tires() {
      return 3;
    }
  }

  static class MrAmes extends Fallow {
    int[] gives(int figure) {
      int[] g = super.gives(figure);
      g[0] += 2;
      return g;
    }

    int tires() {
      return 4;
    }
  }

  static final String LETTERS = "wtrcfm";
  static final Kind[] KINDS = {new Whig(), new Tory(), new Roots(), new Clover(), new Fallow(), new MrAmes()};

  static final class Farmer {
    int kind;
    int figure;
    int tired;
    int at = NONE;

    Farmer copy() {
      Farmer f = new Farmer();
      f.kind = kind;
      f.figure = figure;
      f.tired = tired;
      f.at = at;
      return f;
    }

    int growsOn(int[] h) {
      return tired >= 10 ? 0 : KINDS[kind].grows(h);
    }
  }

  /** What an image keeps. */
  static final class State {
    List<int[]> farms = new ArrayList<>();
    List<Farmer> farmers = new ArrayList<>();
    int step = 1;
    int barn;
    int year;
    int[] grewOn = new int[6];
    int[] grewBy = new int[6];

    State copy() {
      State s = new State();
      for (int[] h : farms) {
        s.farms.add(h.clone());
      }
      for (Farmer f : farmers) {
        s.farmers.add(f.copy());
      }
      s.step = step;
      s.barn = barn;
      s.year = year;
      return s;
    }

    int grew() {
      int sum = 0;
      for (int g : grewOn) {
        sum += g;
      }
      return sum;
    }

    int at(int farm) {
      for (int i = 0; i < farmers.size(); i++) {
        if (farmers.get(i).at == farm) {
          return i;
        }
      }
      return NONE;
    }

    void year() {
      year++;
      grewOn = new int[6];
      grewBy = new int[6];
      for (int farm = 0; farm < farms.size(); farm++) {
        int who = at(farm);
        int[] h = farms.get(farm);
        if (who == NONE) {
          change(h, new int[] {1, 1, 1});
          continue;
        }
        Farmer f = farmers.get(who);
        if (f.tired >= 10) {
          f.tired -= 5;
          continue;
        }
        int grows = KINDS[f.kind].grows(h);
        grewOn[farm] = grows;
        grewBy[who] = grows;
        barn = Math.min(9999, barn + grows);
        change(h, KINDS[f.kind].gives(f.figure));
        f.tired = Math.min(20, f.tired + KINDS[f.kind].tires());
      }
      for (Farmer f : farmers) {
        if (f.at == NONE) {
          f.tired = Math.max(0, f.tired - 5);
        } else {
          f.at = (f.at + step) % farms.size();
        }
      }
    }

    void change(int[] h, int[] by) {
      for (int s = 0; s < 3; s++) {
        h[s] = Math.max(0, Math.min(30, h[s] + by[s]));
      }
    }

    State after(int n) {
      State s = copy();
      for (int i = 0; i < n; i++) {
        s.year();
      }
      return s;
    }

    int grownIn(int n) {
      State s = copy();
      int sum = 0;
      for (int i = 0; i < n; i++) {
        s.year();
        sum += s.grew();
      }
      return sum;
    }

    int green(int farm) {
      int[] h = farms.get(farm);
      return h[0] + h[1] + h[2];
    }

    int greenOfAll() {
      int sum = 0;
      for (int farm = 0; farm < farms.size(); farm++) {
        sum += green(farm);
      }
      return sum;
    }

    boolean barren(int farm) {
      int[] h = farms.get(farm);
      return h[0] == 0 || h[1] == 0 || h[2] == 0;
    }

    String soilAndTired() {
      StringBuilder b = new StringBuilder();
      for (int[] h : farms) {
        b.append(h[0]).append(' ').append(h[1]).append(' ').append(h[2]).append('/');
      }
      for (Farmer f : farmers) {
        b.append(f.tired).append('/');
      }
      return b.toString();
    }

    String seats() {
      StringBuilder b = new StringBuilder();
      for (Farmer f : farmers) {
        b.append(f.at).append('/');
      }
      return b.toString();
    }
  }

  State s = new State();
  State image;
  StringBuilder told = new StringBuilder();
  List<Integer> row = new ArrayList<>();
  int[] refused = new int[7];

  int no(int number) {
    refused[-number]++;
    return number;
  }

  boolean farmOk(int farm) {
    return 0 <= farm && farm < s.farms.size();
  }

  boolean farmerOk(int farmer) {
    return 0 <= farmer && farmer < s.farmers.size();
  }

  int letter(int c) {
    if (c < 0) {
      return no(-4);
    }
    if (c > 255 || told.length() == 96) {
      return no(-6);
    }
    told.append((char) c);
    return told.length();
  }

  static final String[] SHAPES = {
    "f[0-9]{6};", "p[wtrcfm][0-9];", "a[0-9]{2};", "o[0-9];", "h[0-9]{4};", "s[0-9];", "y[0-9]{2};"
  };

  int land() {
    String text = told.toString();
    told.setLength(0);
    String statement = String.join("|", SHAPES);
    for (int end = 0; end <= text.length(); end++) {
      java.util.regex.Matcher m =
          java.util.regex.Pattern.compile("(?:" + statement + ")+").matcher(text.substring(0, end));
      if (!m.matches() && !m.hitEnd()) {
        return -1000 - (end - 1);
      }
    }
    if (!text.matches("(?:" + statement + ")+")) {
      return -1000 - text.length();
    }
    State trial = s.copy();
    String[] parts = text.split(";");
    int place = 0;
    for (String part : parts) {
      if (!apply(trial, part)) {
        return -2000 - place;
      }
      place += part.length() + 1;
    }
    s = trial;
    return parts.length;
  }

  private static boolean apply(State t, String p) {
    int[] d = new int[p.length()];
    for (int i = 0; i < d.length; i++) {
      d[i] = p.charAt(i) - '0';
    }
    switch (p.charAt(0)) {
      case 'f': {
        int[] h = {Integer.parseInt(p.substring(1, 3)), Integer.parseInt(p.substring(3, 5)),
            Integer.parseInt(p.substring(5))};
        t.farms.add(h);
        return t.farms.size() <= 6 && h[0] <= 30 && h[1] <= 30 && h[2] <= 30;
      }
      case 'p': {
        Farmer f = new Farmer();
        f.kind = LETTERS.indexOf(p.charAt(1));
        f.figure = d[2];
        t.farmers.add(f);
        return t.farmers.size() <= 6;
      }
      case 'a':
        if (d[1] >= t.farmers.size() || d[2] >= t.farms.size()) {
          return false;
        }
        sit(t, d[1], d[2]);
        return true;
      case 'o':
        if (d[1] >= t.farmers.size()) {
          return false;
        }
        t.farmers.get(d[1]).at = NONE;
        return true;
      case 'h': {
        int v = Integer.parseInt(p.substring(3));
        if (d[1] >= t.farms.size() || d[2] > 2 || v > 30) {
          return false;
        }
        t.farms.get(d[1])[d[2]] = v;
        return true;
      }
      case 's':
        t.step = d[1];
        return d[1] <= 5;
      default: {
        int n = Integer.parseInt(p.substring(1));
        if (n < 1 || n > 60 || t.year + n > 999) {
          return false;
        }
        for (int i = 0; i < n; i++) {
          t.year();
        }
        return true;
      }
    }
  }

  private static void sit(State t, int farmer, int farm) {
    for (Farmer f : t.farmers) {
      if (f.at == farm) {
        f.at = NONE;
      }
    }
    t.farmers.get(farmer).at = farm;
  }

  int farm(int farm, int what) {
    if (!farmOk(farm)) {
      return no(-1);
    }
    if (what < 0 || what > 4) {
      return no(-2);
    }
    return what < 3 ? s.farms.get(farm)[what] : what == 3 ? s.green(farm) : s.at(farm);
  }

  int farmer(int farmer, int what) {
    if (!farmerOk(farmer)) {
      return no(-1);
    }
    if (what < 0 || what > 5) {
      return no(-2);
    }
    Farmer f = s.farmers.get(farmer);
    int grows = f.at == NONE ? 0 : f.growsOn(s.farms.get(f.at));
    return new int[] {f.kind, f.figure, f.tired, f.at, grows, KINDS[f.kind].tires()}[what];
  }

  int sits(int farmer, int farm) {
    if (!farmerOk(farmer) || !farmOk(farm)) {
      return no(-1);
    }
    int was = s.at(farm);
    sit(s, farmer, farm);
    return was;
  }

  int leaves(int farmer) {
    if (!farmerOk(farmer)) {
      return no(-1);
    }
    Farmer f = s.farmers.get(farmer);
    int was = f.at;
    if (was == NONE) {
      return no(-3);
    }
    f.at = NONE;
    return was;
  }

  int hearts(int farm, int sort, int v) {
    if (!farmOk(farm) || sort < 0 || sort > 2) {
      return no(-1);
    }
    if (v < 0) {
      return no(-4);
    }
    if (v > 30) {
      return no(-6);
    }
    int was = s.farms.get(farm)[sort];
    s.farms.get(farm)[sort] = v;
    return was;
  }

  int steps(int v) {
    if (v < 0) {
      return no(-4);
    }
    if (v > 5) {
      return no(-6);
    }
    int was = s.step;
    s.step = v;
    return was;
  }

  int tires(int farmer, int v) {
    if (!farmerOk(farmer)) {
      return no(-1);
    }
    if (v < 0) {
      return no(-4);
    }
    if (v > 20) {
      return no(-6);
    }
    Farmer f = s.farmers.get(farmer);
    int was = f.tired;
    f.tired = v;
    return was;
  }

  int turn(int farmer, int kind, int figure) {
    if (!farmerOk(farmer)) {
      return no(-1);
    }
    if (kind < 0 || kind > 5) {
      return no(-2);
    }
    if (figure < 0) {
      return no(-4);
    }
    if (figure > 9) {
      return no(-6);
    }
    Farmer f = s.farmers.get(farmer);
    int was = 10 * f.kind + f.figure;
    f.kind = kind;
    f.figure = figure;
    return was;
  }

  int years(int n) {
    if (n < 1) {
      return no(-4);
    }
    if (n > 60 || s.year + n > 999) {
      return no(-6);
    }
    s = s.after(n);
    return s.barn;
  }

  int heartThen(int farm, int sort, int n) {
    if (!farmOk(farm) || sort < 0 || sort > 2) {
      return no(-1);
    }
    return n < 0 ? no(-4) : n > 60 ? no(-6) : s.after(n).farms.get(farm)[sort];
  }

  int farmerThen(int farmer, int n, int what) {
    if (!farmerOk(farmer)) {
      return no(-1);
    }
    if (n < 0) {
      return no(-4);
    }
    if (n > 60) {
      return no(-6);
    }
    if (what < 0 || what > 1) {
      return no(-2);
    }
    Farmer f = s.after(n).farmers.get(farmer);
    return what == 0 ? f.tired : f.at;
  }

  int barnThen(int n) {
    return n < 0 ? no(-4) : n > 60 ? no(-6) : s.after(n).barn;
  }

  int greenest() {
    for (int green = 90; green >= 0; green--) {
      for (int farm = 0; farm < s.farms.size(); farm++) {
        if (s.green(farm) == green) {
          return farm;
        }
      }
    }
    return NONE;
  }

  int lost(int what) {
    if (what < 0 || what > 1) {
      return no(-2);
    }
    for (int n = 0; n <= 60; n++) {
      State then = s.after(n);
      for (int farm = 0; farm < then.farms.size(); farm++) {
        if (then.barren(farm)) {
          return what == 0 ? farm : n;
        }
      }
    }
    return NONE;
  }

  int crop(int farm, int n) {
    if (farm != -1 && !farmOk(farm)) {
      return no(-1);
    }
    if (n < 1) {
      return no(-4);
    }
    if (n > 60) {
      return no(-6);
    }
    int sum = 0;
    for (int i = 1; i <= n; i++) {
      State then = s.after(i);
      sum += farm == -1 ? then.grew() : then.grewOn[farm];
    }
    return sum;
  }

  private int planned(int n) {
    return n < 1 ? no(-4) : n > 30 ? no(-6) : 0;
  }

  int bestStep(int n, int what) {
    int wrong = planned(n);
    if (wrong != 0) {
      return wrong;
    }
    if (what < 0 || what > 1) {
      return no(-2);
    }
    int[] corn = new int[6];
    int best = 5;
    for (int step = 5; step >= 0; step--) {
      State t = s.copy();
      t.step = step;
      corn[step] = t.grownIn(n);
      best = corn[step] >= corn[best] ? step : best;
    }
    return what == 0 ? best : corn[best];
  }

  int send(int n) {
    int wrong = planned(n);
    if (wrong != 0) {
      return wrong;
    }
    int best = NONE;
    int most = s.grownIn(n);
    for (int f = 0; f < s.farmers.size(); f++) {
      State t = s.copy();
      t.farmers.get(f).at = NONE;
      if (t.grownIn(n) > most) {
        most = t.grownIn(n);
        best = f;
      }
    }
    return best;
  }

  int change(int n) {
    int wrong = planned(n);
    if (wrong != 0) {
      return wrong;
    }
    int best = NONE;
    int most = s.grownIn(n);
    for (int pair = 0; pair < 60; pair++) {
      int a = pair / 10;
      int b = pair % 10;
      if (a < b && farmerOk(b)) {
        State t = s.copy();
        t.farmers.get(a).at = s.farmers.get(b).at;
        t.farmers.get(b).at = s.farmers.get(a).at;
        if (t.grownIn(n) > most) {
          most = t.grownIn(n);
          best = pair;
        }
      }
    }
    return best;
  }

  private int bestSum;
  private int[] bestSeats;

  private void seatAll(int f, int[] seats, int sum) {
    if (f == s.farmers.size()) {
      if (sum > bestSum) {
        bestSum = sum;
        bestSeats = seats.clone();
      }
      return;
    }
    for (int farm = 0; farm <= s.farms.size(); farm++) {
      boolean none = farm == s.farms.size();
      boolean taken = false;
      for (int e = 0; e < f; e++) {
        taken |= !none && seats[e] == farm;
      }
      if (!taken) {
        seats[f] = none ? NONE : farm;
        seatAll(f + 1, seats, sum + (none ? 0 : s.farmers.get(f).growsOn(s.farms.get(farm))));
      }
    }
  }

  int next(int farmer) {
    if (farmer != -1 && !farmerOk(farmer)) {
      return no(-1);
    }
    bestSum = -1;
    seatAll(0, new int[6], 0);
    return farmer == -1 ? bestSum : bestSeats[farmer];
  }

  int feed(int farm, int what) {
    if (!farmOk(farm)) {
      return no(-1);
    }
    if (what < 0 || what > 1) {
      return no(-2);
    }
    int best = -1;
    int most = -1;
    for (int kind = 0; kind < 6; kind++) {
      State t = s.copy();
      for (Farmer f : t.farmers) {
        if (f.at == farm) {
          f.at = NONE;
        }
      }
      Farmer f = new Farmer();
      f.kind = kind;
      f.figure = 9;
      f.at = farm;
      t.farmers.add(0, f);
      t.grewBy = new int[7];
      int[] h = t.farms.get(farm);
      t.change(h, KINDS[kind].gives(9));
      if (t.green(farm) > most) {
        most = t.green(farm);
        best = kind;
      }
    }
    return what == 0 ? best : most;
  }

  int settles() {
    for (int n = 0; n <= 60; n++) {
      if (s.after(n).soilAndTired().equals(s.after(n + 1).soilAndTired())) {
        return n;
      }
    }
    return NONE;
  }

  int round() {
    for (int n = 1; n <= 60; n++) {
      if (s.after(n).seats().equals(s.seats())) {
        return n;
      }
    }
    return NONE;
  }

  int free(int what) {
    if (what < 0 || what > 2) {
      return no(-2);
    }
    int bits = 0;
    for (int i = 0; i < 6; i++) {
      boolean is = what == 0 ? farmOk(i) && s.at(i) == NONE
          : farmerOk(i) && (what == 1 ? s.farmers.get(i).at == NONE : s.farmers.get(i).tired >= 10);
      bits += is ? 1 << i : 0;
    }
    return bits;
  }

  int inHeart() {
    for (int n = 0; n <= 60; n++) {
      State then = s.after(n);
      for (int farm = 0; farm < then.farms.size(); farm++) {
        if (then.barren(farm)) {
          return n;
        }
      }
    }
    return 61;
  }

  int even() {
    int most = 0;
    int least = s.farms.isEmpty() ? 0 : 90;
    for (int farm = 0; farm < s.farms.size(); farm++) {
      most = Math.max(most, s.green(farm));
      least = Math.min(least, s.green(farm));
    }
    return most - least;
  }

  private int worth(int me, int a, boolean aRests, int b, boolean bRests, int n) {
    State t = s.copy();
    if (aRests) {
      t.farmers.get(a).at = NONE;
    }
    if (bRests) {
      t.farmers.get(b).at = NONE;
    }
    int sum = 0;
    for (int i = 0; i < n; i++) {
      t.year();
      sum += t.grewBy[me];
    }
    return sum - t.farmers.get(me).tired;
  }

  int two(int a, int b, int n) {
    if (!farmerOk(a) || !farmerOk(b) || a == b) {
      return no(-1);
    }
    int wrong = planned(n);
    if (wrong != 0) {
      return wrong;
    }
    for (int x = 0; x < 2; x++) {
      for (int y = 0; y < 2; y++) {
        boolean p = x == 1;
        boolean q = y == 1;
        if (worth(a, a, p, b, q, n) >= worth(a, a, !p, b, q, n)
            && worth(b, a, p, b, q, n) >= worth(b, a, p, b, !q, n)) {
          return 10 * x + y;
        }
      }
    }
    return NONE;
  }

  private static long part(BigInteger above, BigInteger below, int part) {
    BigInteger d = above.gcd(below);
    return (part == 0 ? above : below).divide(d).longValueExact();
  }

  private BigInteger ways(State at, int n, int t, int v) {
    if (n == 0) {
      return v <= 0 ? BigInteger.ONE : BigInteger.ZERO;
    }
    State then = at.after(1);
    return ways(then, n - 1, t, v).add(ways(then, n - 1, t, v - then.grew()).multiply(BigInteger.valueOf(t - 1)));
  }

  long frost(int n, int t, int v, int part) {
    if (n < 0 || v < 0 || t < 2) {
      return Due.LONG_REFUSAL - no(-4);
    }
    if (n > 7 || t > 20 || v > 999) {
      return Due.LONG_REFUSAL - no(-6);
    }
    if (part < 0 || part > 1) {
      return Due.LONG_REFUSAL - no(-2);
    }
    return part(ways(s, n, t, v), BigInteger.valueOf(t).pow(n), part);
  }

  long mean(int part) {
    if (part < 0 || part > 1) {
      return Due.LONG_REFUSAL - no(-2);
    }
    int farms = Math.max(1, s.farms.size());
    return part(BigInteger.valueOf(s.greenOfAll()), BigInteger.valueOf(farms), part);
  }

  int whoSat(int farm, int farmer, int what) {
    if (!farmOk(farm) || !farmerOk(farmer)) {
      return no(-1);
    }
    if (what < 0 || what > 1) {
      return no(-2);
    }
    int bits = 0;
    for (int i = 0; i < (what == 0 ? 6 : 10); i++) {
      State t = s.copy();
      if (what == 0) {
        t.farmers.get(farmer).kind = i;
      } else {
        t.farmers.get(farmer).figure = i;
      }
      boolean so = true;
      for (int n = 0; n < row.size(); n++) {
        so &= t.after(n).green(farm) == row.get(n);
      }
      bits += so ? 1 << i : 0;
    }
    return bits;
  }

  int row(int v) {
    if (v < 0) {
      return no(-4);
    }
    if (v > 99 || row.size() == 16) {
      return no(-6);
    }
    row.add(v);
    return row.size();
  }

  int judge() {
    int answer = NONE;
    for (int i = row.size() - 1; i >= 0; i--) {
      answer = s.after(i + 1).grew() == row.get(i) ? answer : i;
    }
    row.clear();
    return answer;
  }

  int clear() {
    int had = row.size();
    row.clear();
    return had;
  }

  int lots(int n, int z, int what) {
    if (n < 1) {
      return no(-4);
    }
    if (n > 20) {
      return no(-6);
    }
    if (what < 0 || what > 1) {
      return no(-2);
    }
    int corn = 0;
    int green = 0;
    for (int i = 0; i < n; i++) {
      State t = s.copy();
      for (int[] h : t.farms) {
        for (int sort = 0; sort < 3; sort++) {
          z = (int) (z * 1664525L + 1013904223L);
          h[sort] = ((z << 1 >>> 1) >>> 8) % 31;
        }
      }
      corn += t.grownIn(10);
      green += t.after(10).greenOfAll();
    }
    return what == 0 ? corn : green;
  }

  int image() {
    image = s.copy();
    return s.year;
  }

  int on() {
    if (image == null) {
      return no(-3);
    }
    s = image.copy();
    return s.year;
  }

  int count(int what) {
    if (what > 10 && what < 17) {
      return refused[what - 10];
    }
    int[] all = {s.farms.size(), s.farmers.size(), s.year, s.step, s.barn, s.greenOfAll(), row.size(), told.length()};
    return what >= 0 && what < 8 ? all[what] : NONE;
  }
}
