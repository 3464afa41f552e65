import java.util.ArrayList;
import java.util.Arrays;
import java.util.List;
import java.util.function.ToIntFunction;

/**
 * The document once more, written another way (objects of kinds, whole copies, exceptions, all plans listed), so that
 * random runs can be held against it. It shares no code with PlayedTruth.
 */
final class Model {
  static final int BAD = -1, FULL = -2, NONE = -3, STATE = -4;

  static final class Refused extends RuntimeException {
    private static final long serialVersionUID = 1;
    final int answer;

    Refused(int answer) {
      super("refused", null, false, false);
      this.answer = answer;
    }
  }

  // ---------------------------------------------------------------- things of kinds

  static class Scene {
    int n;
    int a;
    int truth;
    int pretty;
    boolean settled;
    List<Integer> trace = new ArrayList<>();

    int learns(int rail, int night) {
      return 8 * rail;
    }

    int draws() {
      return Math.max(0, 10 + pretty - truth / 9);
    }

    int enters(int x) {
      trace.add(10);
      return x * 6 + n;
    }

    int speaks(int x) {
      trace.add(11);
      return enters(x) - a;
    }

    int halves(int x) {
      trace.add(12);
      return x / (a + n - 3);
    }

    int exits(int x) {
      trace.add(13);
      return speaks(x) + halves(x);
    }
  }

  static class Trial extends Scene {
    @Override int learns(int rail, int night) {
      return super.learns(rail, night) + truth / 10;
    }

    @Override int draws() {
      return 9;
    }

    @Override int enters(int x) {
      trace.add(20);
      return super.enters(x) ^ 10;
    }
  }

  static class Duet extends Scene {
    @Override int learns(int rail, int night) {
      int all = super.learns(rail, night);
      return truth > 40 ? all / 2 : all;
    }

    @Override int draws() {
      return super.draws() + pretty;
    }

    @Override int speaks(int x) {
      trace.add(30);
      return super.speaks(x) * 2;
    }
  }

  static class Sunset extends Duet {
    @Override int learns(int rail, int night) {
      return Math.max(0, super.learns(rail, night) - 3);
    }

    @Override int draws() {
      return super.draws() * 2;
    }

    @Override int enters(int x) {
      trace.add(50);
      return super.enters(x + 7);
    }

    @Override int exits(int x) {
      trace.add(51);
      return super.exits(x) - speaks(a);
    }
  }

  static class Crowd extends Scene {
    @Override int learns(int rail, int night) {
      return 5 * rail + 4;
    }

    @Override int draws() {
      return super.draws() / 2;
    }

    @Override int halves(int x) {
      trace.add(40);
      return super.halves(x) + 6;
    }
  }

  static class Match extends Crowd {
    @Override int learns(int rail, int night) {
      return night % 2 != 0 ? 0 : super.learns(rail, night);
    }

    @Override int draws() {
      return super.draws() + n;
    }

    @Override int speaks(int x) {
      trace.add(60);
      return 0 - super.speaks(x);
    }

    @Override int halves(int x) {
      trace.add(61);
      return super.halves(x) ^ enters(n);
    }
  }

  static final List<Class<? extends Scene>> KINDS =
      List.of(Scene.class, Trial.class, Duet.class, Sunset.class, Crowd.class, Match.class);
  static final List<String> KIND_NAMES = List.of("scene", "trial", "duet", "sunset", "crowd", "match");
  static final List<String> DEEDS = List.of("mend", "keep", "trim");

  static Scene make(int kind) {
    switch (kind) {
      case 0: return new Scene();
      case 1: return new Trial();
      case 2: return new Duet();
      case 3: return new Sunset();
      case 4: return new Crowd();
      default: return new Match();
    }
  }

  static Scene copyAs(int kind, Scene s) {
    Scene c = make(kind);
    c.n = s.n;
    c.a = s.a;
    c.truth = s.truth;
    c.pretty = s.pretty;
    c.settled = s.settled;
    return c;
  }

  static int kindOf(Scene s) {
    return KINDS.indexOf(s.getClass());
  }

  // ---------------------------------------------------------------- rules

  interface Cond {
    boolean holds(World w, Scene s);
  }

  record Rule(Class<? extends Scene> kind, Cond cond, int deed) {
  }

  record Token(String text, int at) {
    boolean isNumber() {
      return !text.isEmpty() && Character.isDigit(text.charAt(0));
    }
  }

  static final class Fault extends RuntimeException {
    private static final long serialVersionUID = 1;
    final int at;

    Fault(int at) {
      super("fault", null, false, false);
      this.at = at;
    }
  }

  static final class Parser {
    final List<Token> tokens = new ArrayList<>();
    int i = 0;

    Parser(String text) {
      int p = 0;
      while (p < text.length()) {
        int q = p + 1;
        char c = text.charAt(p);
        String like = c >= 'a' && c <= 'z' ? "[a-z]+" : c >= '0' && c <= '9' ? "[0-9]+" : null;
        if (like != null) {
          while (q < text.length() && text.substring(p, q + 1).matches(like)) q++;
        }
        if (c != ' ') tokens.add(new Token(text.substring(p, q), p));
        p = q;
      }
      tokens.add(new Token("", text.length()));
    }

    Token peek() {
      return tokens.get(i);
    }

    boolean accept(String text) {
      if (!peek().text.equals(text) || text.isEmpty()) return false;
      i++;
      return true;
    }

    Token oneOf(List<String> texts) {
      if (!texts.contains(peek().text)) throw new Fault(peek().at);
      return tokens.get(i++);
    }

    List<Rule> text() {
      List<Rule> rules = new ArrayList<>();
      while (!peek().text.isEmpty()) {
        if (rules.size() == 8) throw new Fault(peek().at);
        int kind = KIND_NAMES.indexOf(oneOf(KIND_NAMES).text);
        Cond cond = accept("if") ? cond(0) : (w, s) -> true;
        int deed = DEEDS.indexOf(oneOf(DEEDS).text);
        oneOf(List.of(";"));
        rules.add(new Rule(KINDS.get(kind), cond, deed));
      }
      return rules;
    }

    Cond cond(int open) {
      Cond left = all(open);
      while (accept("or")) {
        Cond l = left;
        Cond r = all(open);
        left = (w, s) -> l.holds(w, s) || r.holds(w, s);
      }
      return left;
    }

    Cond all(int open) {
      Cond left = one(open);
      while (accept("and")) {
        Cond l = left;
        Cond r = one(open);
        left = (w, s) -> l.holds(w, s) && r.holds(w, s);
      }
      return left;
    }

    Cond one(int open) {
      if (accept("not")) {
        Cond c = one(open);
        return (w, s) -> !c.holds(w, s);
      }
      if (peek().text.equals("(")) {
        if (open == 3) throw new Fault(peek().at);
        i++;
        Cond c = cond(open + 1);
        oneOf(List.of(")"));
        return c;
      }
      int left = value();
      String sign = oneOf(List.of("<", "=", ">")).text;
      int right = value();
      return (w, s) -> {
        int c = Integer.compare(fact(left, w, s), fact(right, w, s));
        return sign.equals("<") ? c < 0 : sign.equals("=") ? c == 0 : c > 0;
      };
    }

    /** Facts are below 0. */
    int value() {
      Token t = peek();
      if (t.isNumber()) {
        if (t.text.length() > 4) throw new Fault(t.at);
        i++;
        return Integer.parseInt(t.text);
      }
      List<String> facts = List.of("night", "truth", "pretty", "rail", "number");
      return -1 - facts.indexOf(oneOf(facts).text);
    }

    static int fact(int v, World w, Scene s) {
      switch (v) {
        case -1: return w.night;
        case -2: return s.truth;
        case -3: return s.pretty;
        case -4: return w.rail();
        case -5: return s.n;
        default: return v;
      }
    }
  }

  // ---------------------------------------------------------------- the world that is kept

  static final class World {
    List<Scene> scenes = new ArrayList<>();
    List<Rule> rules = new ArrayList<>();
    List<int[]> reports = new ArrayList<>();
    int[] houses = new int[16];
    int[][] places = new int[6][2];
    int night = 0;
    int end = 12;
    int score = 0;
    int z = 1;

    World() {
      Arrays.fill(houses, 9);
    }

    World copy() {
      World w = new World();
      for (Scene s : scenes) w.scenes.add(copyAs(kindOf(s), s));
      w.rules.addAll(rules);
      w.reports.addAll(reports);
      w.houses = houses.clone();
      for (int f = 0; f < 6; f++) w.places[f] = places[f].clone();
      w.night = night;
      w.end = end;
      w.score = score;
      w.z = z;
      return w;
    }

    boolean over() {
      return night >= end;
    }

    int house() {
      return night <= 15 ? houses[night] : 0;
    }

    int rail() {
      return house() / 4;
    }

    int settledSet() {
      int set = 0;
      for (Scene s : scenes) if (s.settled) set += 1 << s.n;
      return set;
    }

    int leans(Scene s) {
      return (int) scenes.stream().filter(o -> o.settled && o.a + 1 == s.a).count();
    }

    int learns(Scene s) {
      return Math.max(0, s.learns(rail(), night) + 5 * leans(s) - places[s.a][1]);
    }

    int draws(Scene s) {
      return s.draws() + places[s.a][0];
    }

    int will(Scene s) {
      for (Rule r : rules) if (r.kind.isInstance(s) && r.cond.holds(this, s)) return r.deed;
      return 0;
    }

    boolean may(Scene s) {
      return !s.settled && will(s) == 0 && learns(s) > 0;
    }

    int restAct() {
      for (Scene s : scenes) if (may(s)) return s.n + 1;
      return 0;
    }

    int go(int act) {
      int worth = 0;
      if (act > 0 && !scenes.get(act - 1).settled) {
        Scene s = scenes.get(act - 1);
        int will = will(s);
        if (will == 0) {
          int more = learns(s);
          s.truth = Math.min(99, s.truth + more);
          worth += more;
          if (s.truth >= 60) s.settled = true;
        } else if (will == 2) {
          s.pretty = Math.min(9, s.pretty + 1);
          s.truth = Math.max(0, s.truth - 10);
          worth += 2 * (house() % 4);
        }
      }
      for (Scene s : scenes) worth += draws(s);
      for (Scene s : scenes) if (!s.settled && s.truth > 0) s.truth--;
      night++;
      score += worth;
      return worth;
    }

    int goByLot() {
      z = z * 1103515245 + 12345;
      return go((z >>> 16) % (scenes.size() + 1));
    }

    int truthSum() {
      return scenes.stream().mapToInt(s -> s.truth).sum();
    }
  }

  // ---------------------------------------------------------------- the calls

  World w = new World();
  World kept = null;
  StringBuilder tape = new StringBuilder();
  List<int[]> rowList = new ArrayList<>();
  /** null: missing; [0] sort, then items. */
  int[][] sheets = new int[4][];
  /** null: nothing; an Integer: a scene's number; an int[]: a row. */
  Object[] shelves = new Object[4];
  List<Integer> traced = new ArrayList<>();

  static void bad(boolean isBad) {
    if (isBad) throw new Refused(BAD);
  }

  static void in(int v, int least, int most) {
    bad(v < least || v > most);
  }

  Scene get(int k) {
    bad(k < 0 || k >= w.scenes.size());
    return w.scenes.get(k);
  }

  public int scene(int kind, int truth, int pretty, int place) {
    in(kind, 1, 5);
    in(truth, 0, 99);
    in(pretty, 0, 9);
    in(place, 0, 5);
    if (w.scenes.size() == 6) return FULL;
    Scene s = make(kind);
    s.n = w.scenes.size();
    s.truth = truth;
    s.pretty = pretty;
    s.a = place;
    w.scenes.add(s);
    return s.n;
  }

  public int sceneOf(int k, int what) {
    Scene s = get(k);
    in(what, 0, 9);
    List<ToIntFunction<Scene>> all = List.of(Model::kindOf, t -> t.truth, t -> t.pretty, t -> t.a,
        t -> t.settled ? 1 : 0, w::learns, w::draws, w::leans, t -> w.may(t) ? 1 : 0, w::will);
    return all.get(what).applyAsInt(s);
  }

  public int change(int k, int what, int v) {
    Scene s = get(k);
    in(what, 1, 4);
    in(v, 0, new int[] {0, 99, 9, 5, 1}[what]);
    int was = sceneOf(k, what);
    if (what == 1) s.truth = v;
    if (what == 2) s.pretty = v;
    if (what == 3) s.a = v;
    if (what == 4) s.settled = v == 1;
    return was;
  }

  public int remake(int k, int kind) {
    Scene s = get(k);
    in(kind, 1, 5);
    w.scenes.set(k, copyAs(kind, s));
    return kindOf(s);
  }

  public int house(int night, int v) {
    in(night, 0, 15);
    in(v, 0, 15);
    int was = w.houses[night];
    w.houses[night] = v;
    return was;
  }

  public int place(int f, int what, int v) {
    int was = placeOf(f, what);
    in(v, 0, 9);
    if (was >= 0) w.places[f][what] = v;
    return was;
  }

  public int placeOf(int f, int what) {
    in(f, 0, 5);
    in(what, 0, 1);
    return w.places[f][what];
  }

  public int ends(int v) {
    in(v, 1, 16);
    if (v < w.night) return STATE;
    int was = w.end;
    w.end = v;
    return was;
  }

  public int anew() {
    int was = w.night;
    w.night = 0;
    w.score = 0;
    for (Scene s : w.scenes) s.settled = false;
    return was;
  }

  public int state(int what) {
    in(what, 0, 6);
    return new int[] {w.night, w.end, w.score, w.over() ? 1 : 0, w.settledSet(), w.house(), w.truthSum()}[what];
  }

  public int feed(long eight, int n) {
    in(n, 1, 8);
    if (tape.length() + n > 200) return FULL;
    for (int i = 0; i < n; i++) {
      tape.append((char) (eight & 0xFF));
      eight >>= 8;
    }
    return tape.length();
  }

  public int rules() {
    String text = tape.toString();
    tape.setLength(0);
    try {
      w.rules = new Parser(text).text();
      return w.rules.size();
    } catch (Fault f) {
      return -100 - f.at;
    }
  }

  public int night() {
    return w.over() ? STATE : w.go(w.restAct());
  }

  int restWorth(World from, int n) {
    World c = from.copy();
    int sum = 0;
    for (int i = 0; i < n && !c.over(); i++) sum += c.go(c.restAct());
    return sum;
  }

  public int on(int n) {
    in(n, 0, 16);
    return restWorth(w, n);
  }

  public int when(int k) {
    if (get(k).settled) return NONE;
    World c = w.copy();
    while (!c.over()) {
      int night = c.night;
      c.go(c.restAct());
      if (c.scenes.get(k).settled) return night;
    }
    return NONE;
  }

  public int prettyFor(int k) {
    get(k);
    int[] worths = new int[10];
    for (int p = 0; p < 10; p++) {
      World c = w.copy();
      c.scenes.get(k).pretty = p;
      worths[p] = restWorth(c, 99);
    }
    return firstMost(worths);
  }

  public int placeFor(int k) {
    get(k);
    int[] worths = new int[6];
    for (int f = 0; f < 6; f++) {
      World c = w.copy();
      c.scenes.get(k).a = f;
      worths[f] = restWorth(c, 99);
    }
    return firstMost(worths);
  }

  static int firstMost(int[] values) {
    int at = 0;
    for (int i = 1; i < values.length; i++) if (values[i] > values[at]) at = i;
    return at;
  }

  public int truth(int v) {
    in(v, 0, 594);
    World c = w.copy();
    while (true) {
      if (c.truthSum() >= v) return c.night;
      if (c.over()) return NONE;
      c.go(c.restAct());
    }
  }

  public int props(int k) {
    Scene s = get(k);
    int set = 1 << k;
    for (int f = s.a - 1; f >= 0; f--) {
      int place = f;
      int there = w.scenes.stream().filter(o -> o.a == place).mapToInt(o -> 1 << o.n).sum();
      if (there == 0) return set;
      set |= there;
    }
    return set;
  }

  public int strands(int what) {
    in(what, -1, 5);
    int size = w.scenes.size();
    int[] label = new int[size];
    for (int i = 0; i < size; i++) label[i] = i;
    for (int i = 0; i < size; i++) {
      for (int j = 0; j < size; j++) {
        Scene s = w.scenes.get(i);
        Scene t = w.scenes.get(j);
        if (s.settled || t.settled) continue;
        if (s.a == t.a || Math.abs(s.truth - t.truth) <= 3) {
          int from = label[j];
          int to = label[i];
          for (int l = 0; l < size; l++) if (label[l] == from) label[l] = to;
        }
      }
    }
    if (what == -1) {
      int labels = 0;
      for (int i = 0; i < size; i++) if (!w.scenes.get(i).settled) labels |= 1 << label[i];
      return Integer.bitCount(labels);
    }
    if (get(what).settled) return 0;
    int set = 0;
    for (int i = 0; i < size; i++) if (label[i] == label[what]) set |= 1 << i;
    return set;
  }

  public int billing(int v) {
    in(v, 0, 999);
    for (int size = 0; size <= w.scenes.size(); size++) {
      for (int set = 0; set < 1 << w.scenes.size(); set++) {
        if (Integer.bitCount(set) != size) continue;
        int sum = 0;
        for (Scene s : w.scenes) if ((set & 1 << s.n) != 0) sum += w.draws(s);
        if (sum >= v) return set;
      }
    }
    return NONE;
  }

  record Plan(List<Integer> acts, int worth, int settled) {
  }

  List<Plan> plans(int n) {
    List<Plan> all = new ArrayList<>();
    int nights = Math.max(0, Math.min(n, w.end - w.night));
    int base = w.scenes.size() + 1;
    int count = 1;
    for (int i = 0; i < nights; i++) count *= base;
    for (int code = 0; code < count; code++) {
      List<Integer> acts = new ArrayList<>();
      int rest = code;
      for (int i = 0; i < nights; i++) {
        acts.add(0, rest % base);
        rest /= base;
      }
      World c = w.copy();
      int worth = 0;
      for (int act : acts) worth += c.go(act);
      all.add(new Plan(acts, worth, c.settledSet()));
    }
    return all;
  }

  List<Plan> bestPlans(int n) {
    List<Plan> all = plans(n);
    int most = all.stream().mapToInt(Plan::worth).max().getAsInt();
    return all.stream().filter(p -> p.worth == most).toList();
  }

  public int best(int n) {
    in(n, 0, 4);
    return bestPlans(n).get(0).worth;
  }

  public int ith(int n, int i) {
    in(n, 0, 4);
    in(i, 0, 3);
    List<Integer> acts = bestPlans(n).get(0).acts;
    return i < acts.size() ? acts.get(i) : NONE;
  }

  public int ways(int n) {
    in(n, 0, 4);
    return bestPlans(n).size();
  }

  public int bill(int n, int scenes) {
    in(n, 0, 4);
    bad(scenes < 0 || scenes >> w.scenes.size() != 0);
    return plans(n).stream().filter(p -> (p.settled | scenes) == p.settled)
        .mapToInt(p -> (int) p.acts.stream().filter(a -> a != 0).count()).min().orElse(NONE);
  }

  public int bars(int n, int scenes) {
    in(n, 0, 4);
    bad(scenes < 0 || scenes >> w.scenes.size() != 0);
    List<Plan> all = plans(n);
    for (int k = 0; k < w.scenes.size(); k++) {
      int bit = 1 << k;
      if ((scenes & bit) != 0 && all.stream().noneMatch(p -> (p.settled & bit) != 0)) return k;
    }
    return NONE;
  }

  int gameValue(World from, int left, int turn) {
    if (left == 0 || from.over()) return 0;
    List<Integer> values = new ArrayList<>();
    for (int act = 0; act <= from.scenes.size(); act++) values.add(gameAfter(from, act, left, turn));
    return turn == 0 ? values.stream().mapToInt(v -> v).max().getAsInt()
        : values.stream().mapToInt(v -> v).min().getAsInt();
  }

  int gameAfter(World from, int act, int left, int turn) {
    World c = from.copy();
    int worth = c.go(act);
    return worth + gameValue(c, left - 1, 1 - turn);
  }

  public int game(int n) {
    in(n, 1, 4);
    return gameValue(w, n, 0);
  }

  public int play(int n) {
    in(n, 1, 4);
    if (w.over()) return NONE;
    int value = gameValue(w, n, 0);
    for (int act = 0; act <= w.scenes.size(); act++) if (gameAfter(w, act, n, 0) == value) return act;
    throw new IllegalStateException();
  }

  public int report(int k, int asked, int least, int most) {
    in(k, 0, 15);
    in(asked, 0, 1);
    in(least, 0, asked == 0 ? 99 : 999);
    in(most, least, asked == 0 ? 99 : 999);
    if (w.reports.size() == 6) return FULL;
    w.reports.add(new int[] {k, asked, least, most});
    return w.reports.size() - 1;
  }

  public int forget() {
    int was = w.reports.size();
    w.reports.clear();
    return was;
  }

  boolean isSo(int[] report, int kind, int pretty, int truth) {
    Scene s = make(kind);
    s.pretty = pretty;
    s.truth = truth;
    int drawn = 0;
    for (int night = 0; night < report[0]; night++) {
      s.truth = Math.min(99, s.truth + s.learns(w.houses[night] / 4, night));
      drawn += s.draws();
    }
    int was = report[1] == 0 ? s.truth : drawn;
    return was >= report[2] && was <= report[3];
  }

  List<int[]> fitting(List<int[]> reports) {
    List<int[]> fits = new ArrayList<>();
    for (int kind = 1; kind <= 5; kind++) {
      for (int pretty = 0; pretty <= 9; pretty++) {
        for (int truth = 0; truth <= 54; truth += 6) {
          boolean all = true;
          for (int[] r : reports) all = all && isSo(r, kind, pretty, truth);
          if (all) fits.add(new int[] {kind, pretty, truth});
        }
      }
    }
    return fits;
  }

  public int lone(int what) {
    in(what, 0, 3);
    List<int[]> fits = fitting(w.reports);
    if (what == 0) return fits.size();
    return fits.isEmpty() ? NONE : fits.get(0)[what - 1];
  }

  public int liar() {
    if (!fitting(w.reports).isEmpty()) return NONE;
    for (int r = 0; r < w.reports.size(); r++) {
      List<int[]> others = new ArrayList<>(w.reports);
      others.remove(r);
      if (!fitting(others).isEmpty()) return r;
    }
    return NONE;
  }

  public int seed(int v) {
    int was = w.z;
    w.z = v;
    return was;
  }

  public int lot() {
    return w.over() ? STATE : w.goByLot();
  }

  public int times(int n, int v) {
    in(n, 1, 40);
    in(v, 0, 999);
    int z = w.z;
    int count = 0;
    for (int i = 0; i < n; i++) {
      World c = w.copy();
      c.z = z;
      int sum = 0;
      while (!c.over()) sum += c.goByLot();
      z = c.z;
      if (sum >= v) count++;
    }
    return count;
  }

  public int prove(int n) {
    in(n, 0, 4);
    List<Integer> acts = bestPlans(n).get(0).acts;
    rowList.clear();
    World c = w.copy();
    for (int act : acts) {
      int worth = c.go(act);
      rowList.add(new int[] {act, worth, c.settledSet()});
    }
    return rowList.size();
  }

  public int row(int k, int what) {
    if (k < 0 || k >= rowList.size() || what < 0 || what > 2) return -9;
    return rowList.get(k)[what];
  }

  public int alterRow(int k, int what, int v) {
    if (k < 0 || k >= rowList.size() || what < 0 || what > 2) return -9;
    int was = rowList.get(k)[what];
    rowList.get(k)[what] = v;
    return was;
  }

  public int judge() {
    World c = w.copy();
    for (int k = 0; k < rowList.size(); k++) {
      int[] r = rowList.get(k);
      if (c.over() || r[0] < 0 || r[0] > c.scenes.size()) return k + 1;
      int worth = c.go(r[0]);
      if (worth != r[1] || c.settledSet() != r[2]) return k + 1;
    }
    return 0;
  }

  public int sheet(int sheet, int sort, int n) {
    in(sheet, 0, 3);
    in(sort, -1, 4);
    if (sort == -1) {
      sheets[sheet] = null;
      return 1;
    }
    bad(n > 40);
    if (n < 0) return -14;
    sheets[sheet] = new int[n + 1];
    sheets[sheet][0] = sort;
    return 1;
  }

  public int write(int sheet, int i, int v) {
    in(sheet, 0, 3);
    int[] row = sheets[sheet];
    if (row == null) return -11;
    if (i < 0 || i >= row.length - 1) return -12;
    int[] narrowed = {(byte) v, (short) v, v, v, v != 0 ? 1 : 0};
    row[i + 1] = narrowed[row[0]];
    return 1;
  }

  int[] rowAs(int sheet, int sort) {
    int[] row = sheets[sheet];
    if (row == null) throw new Refused(-11);
    if (row[0] != sort) throw new Refused(-13);
    return row;
  }

  static int itemOf(int[] row, int i) {
    if (i < 0 || i >= row.length - 1) throw new Refused(-12);
    return row[i + 1];
  }

  public int item(int sheet, int sort, int i) {
    in(sheet, 0, 3);
    in(sort, 0, 4);
    return itemOf(rowAs(sheet, sort), i);
  }

  public int goAll(int sheet, int i, int n) {
    in(sheet, 0, 3);
    in(n, 0, 20);
    int[] row = rowAs(sheet, 0);
    int sum = 0;
    for (int j = 0; j < n; j++) {
      int act = itemOf(row, i + j);
      if (act < 0 || act > w.scenes.size() || w.over()) continue;
      sum += w.go(act);
    }
    return sum;
  }

  public int wouldBe(int sheet, int i, int n) {
    in(sheet, 0, 3);
    in(n, 0, 20);
    int[] row = rowAs(sheet, 0);
    World c = w.copy();
    int sum = 0;
    for (int j = 0; j < n; j++) {
      int act = itemOf(row, i + j);
      if (act < 0 || act > c.scenes.size() || c.over()) return STATE;
      sum += c.go(act);
    }
    return sum;
  }

  public int shelf(int shelf, int what, int n) {
    in(shelf, 0, 3);
    in(what, 0, 2);
    Object thing = null;
    if (what == 0) thing = get(n).n;
    if (what == 1) {
      in(n, 0, 3);
      thing = sheets[n];
    }
    shelves[shelf] = thing;
    return 1;
  }

  Object onShelf(int shelf) {
    Object thing = shelves[shelf];
    if (thing instanceof Integer k) return k < w.scenes.size() ? w.scenes.get(k) : null;
    return thing;
  }

  public int taken(int shelf, int as) {
    in(shelf, 0, 3);
    bad(as < 0 || as > 14 || as > 5 && as < 10);
    Object thing = onShelf(shelf);
    if (thing == null) return -11;
    if (as <= 5 && KINDS.get(as).isInstance(thing)) return ((Scene) thing).n;
    if (as >= 10 && thing instanceof int[] row && row[0] == as - 10) return row.length - 1;
    return -13;
  }

  public int act(int shelf, int act, int x) {
    traced = new ArrayList<>();
    if (shelf < 0 || shelf > 3 || act < 0 || act > 3 || !(onShelf(shelf) instanceof Scene s)) return 0;
    s.trace = traced;
    try {
      switch (act) {
        case 0: return s.enters(x);
        case 1: return s.speaks(x);
        case 2: return s.halves(x);
        default: return s.exits(x);
      }
    } catch (ArithmeticException e) {
      return -15;
    }
  }

  public int trace(int i) {
    return i >= 0 && i < Math.min(30, traced.size()) ? traced.get(i) : NONE;
  }

  public int many(int what) {
    in(what, 0, 6);
    return new int[] {w.scenes.size(), w.rules.size(), Integer.bitCount(w.settledSet()), w.reports.size(),
        rowList.size(), tape.length(), Math.min(30, traced.size())}[what];
  }

  public int keep() {
    kept = w.copy();
    return 1;
  }

  public int again() {
    if (kept == null) return NONE;
    w = kept.copy();
    return w.scenes.size();
  }
}
