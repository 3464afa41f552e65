/**
 * A stage on which scenes are mended, kept or trimmed, night by night, and what can be asked of it.
 * Every row is made in a constructor and used again, so that no call makes an object.
 */
public final class PlayedTruth {
  public static final int BAD = -1, FULL = -2, NONE = -3, STATE = -4;

  private static final int NO_ROW = -9;
  private static final int NOTHING_THERE = -11, OUTSIDE = -12, OTHER_SORT = -13, SIZE_BELOW_0 = -14, PARTED_BY_0 = -15;
  private static final int FAULT_BASE = -100;

  private static final int MOST_SCENES = 6, MOST_PLACES = 6, MOST_HOUSES = 16, MOST_PLANNED = 4;
  private static final int MOST_TRUTH = 99, MOST_PRETTY = 9, MOST_LIGHT = 9, MOST_HOUSE = 15, MOST_END = 16;
  private static final int MOST_SUM = 999, MOST_LOTS = 40, MOST_GOING = 20;
  /** What a scene's will can be; to keep, 1, does nothing. */
  private static final int MEND = 0, TRIM = 2;
  private static final int ROW_SIZE = 3;

  private final Stage stage = new Stage();
  private final Moment now = new Moment();
  private final Strangers strangers = new Strangers();
  private final RuleReader reader = new RuleReader();
  private final Ahead ahead = new Ahead(stage, now);
  private final Host host = new Host();
  private final Acting acting = new Acting();
  private final int[] rows = new int[MOST_PLANNED * ROW_SIZE];
  private int rowCount = 0;
  private final Stage keptStage = new Stage();
  private final Moment keptNow = new Moment();
  private final Strangers keptStrangers = new Strangers();
  private boolean isKept = false;

  public PlayedTruth() {
  }

  // ---- the stage, scenes

  public int scene(int kind, int truth, int pretty, int place) {
    if (!isIn(kind, 1, Kind.MATCH) || !isIn(truth, 0, MOST_TRUTH)) return BAD;
    if (!isIn(pretty, 0, MOST_PRETTY) || !isPlace(place)) return BAD;
    if (stage.scenes >= MOST_SCENES) return FULL;
    int k = stage.scenes++;
    stage.kind[k] = kind;
    stage.place[k] = place;
    now.truth[k] = truth;
    now.pretty[k] = pretty;
    return k;
  }

  public int sceneOf(int k, int what) {
    if (!isScene(k)) return BAD;
    switch (what) {
      case 0: return stage.kind[k];
      case 1: return now.truth[k];
      case 2: return now.pretty[k];
      case 3: return stage.place[k];
      case 4: return now.isSettled(k) ? 1 : 0;
      case 5: return stage.learns(now, k);
      case 6: return stage.draws(now, k);
      case 7: return stage.leans(now, k);
      case 8: return stage.mayBeMended(now, k) ? 1 : 0;
      case 9: return stage.will(now, k);
      default: return BAD;
    }
  }

  public int change(int k, int what, int v) {
    if (!isScene(k)) return BAD;
    switch (what) {
      case 1: return isIn(v, 0, MOST_TRUTH) ? put(now.truth, k, v) : BAD;
      case 2: return isIn(v, 0, MOST_PRETTY) ? put(now.pretty, k, v) : BAD;
      case 3: return isPlace(v) ? put(stage.place, k, v) : BAD;
      case 4: return isIn(v, 0, 1) ? putSettled(k, v) : BAD;
      default: return BAD;
    }
  }

  private int putSettled(int k, int v) {
    int was = now.isSettled(k) ? 1 : 0;
    now.settled = now.settled & ~(1 << k) | v << k;
    return was;
  }

  public int remake(int k, int kind) {
    return isScene(k) && isIn(kind, 1, Kind.MATCH) ? put(stage.kind, k, kind) : BAD;
  }

  public int house(int night, int v) {
    if (!isIn(night, 0, MOST_HOUSES - 1) || !isIn(v, 0, MOST_HOUSE)) return BAD;
    return put(stage.houses, night, v);
  }

  public int place(int f, int what, int v) {
    if (!isPlace(f) || !isIn(what, 0, 1) || !isIn(v, 0, MOST_LIGHT)) return BAD;
    return put(what == 0 ? stage.light : stage.noise, f, v);
  }

  public int placeOf(int f, int what) {
    if (!isPlace(f) || !isIn(what, 0, 1)) return BAD;
    return what == 0 ? stage.light[f] : stage.noise[f];
  }

  public int ends(int v) {
    if (!isIn(v, 1, MOST_END)) return BAD;
    if (v < now.night) return STATE;
    int was = stage.end;
    stage.end = v;
    return was;
  }

  public int anew() {
    int was = now.night;
    now.night = 0;
    now.score = 0;
    now.settled = 0;
    return was;
  }

  public int state(int what) {
    switch (what) {
      case 0: return now.night;
      case 1: return stage.end;
      case 2: return now.score;
      case 3: return stage.isOver(now) ? 1 : 0;
      case 4: return now.settled;
      case 5: return stage.houseOf(now.night);
      case 6: return stage.truthOfAll(now);
      default: return BAD;
    }
  }

  // ---- the rules

  public int feed(long eight, int n) {
    if (!isIn(n, 1, 8)) return BAD;
    if (!reader.hasRoomFor(n)) return FULL;
    reader.take(eight, n);
    return reader.size;
  }

  public int rules() {
    boolean isTold = reader.readAndUseUp();
    if (!isTold) return FAULT_BASE - reader.fault;
    stage.rules.copyFrom(reader.draft);
    return stage.rules.count;
  }

  // ---- nights

  public int night() {
    if (stage.isOver(now)) return STATE;
    return stage.goBy(now, stage.actOfRest(now));
  }

  public int on(int n) {
    return isIn(n, 0, MOST_END) ? ahead.worthOfRest(n) : BAD;
  }

  public int when(int k) {
    return isScene(k) ? ahead.settlingNight(k) : BAD;
  }

  public int prettyFor(int k) {
    return isScene(k) ? bestSetting(now.pretty, k, MOST_PRETTY) : BAD;
  }

  public int placeFor(int k) {
    return isScene(k) ? bestSetting(stage.place, k, MOST_PLACES - 1) : BAD;
  }

  /** Tries each setting in its real place and puts back what was there: the look ahead reads it from there. */
  private int bestSetting(int[] settings, int k, int most) {
    int was = settings[k];
    int best = 0;
    int bestWorth = -1;
    for (int v = 0; v <= most; v++) {
      settings[k] = v;
      int worth = ahead.worthOfRest(MOST_END);
      if (worth > bestWorth) {
        best = v;
        bestWorth = worth;
      }
    }
    settings[k] = was;
    return best;
  }

  // ---- when it is true, props, strands, billings

  public int truth(int v) {
    return isIn(v, 0, MOST_SCENES * MOST_TRUTH) ? ahead.trueNight(v) : BAD;
  }

  public int props(int k) {
    if (!isScene(k)) return BAD;
    int set = 1 << k;
    for (int f = stage.place[k] - 1; f >= 0; f--) {
      int there = stage.scenesIn(f);
      if (there == 0) break;
      set |= there;
    }
    return set;
  }

  public int strands(int what) {
    if (what == -1) return countStrands();
    return isScene(what) ? strandOf(what) : BAD;
  }

  private int countStrands() {
    int count = 0;
    int seen = now.settled;
    for (int k = 0; k < stage.scenes; k++) {
      if ((seen >> k & 1) == 1) continue;
      seen |= strandOf(k);
      count++;
    }
    return count;
  }

  private int strandOf(int k) {
    if (now.isSettled(k)) return 0;
    int set = 1 << k;
    for (int round = 1; round < stage.scenes; round++) set |= closeToAny(set);
    return set;
  }

  private int closeToAny(int set) {
    int close = 0;
    for (int i = 0; i < stage.scenes; i++) {
      if ((set >> i & 1) == 0) continue;
      for (int j = 0; j < stage.scenes; j++) {
        if (stage.areClose(now, i, j)) close |= 1 << j;
      }
    }
    return close;
  }

  public int billing(int v) {
    if (!isIn(v, 0, MOST_SUM)) return BAD;
    int best = NONE;
    int fewest = MOST_SCENES + 1;
    for (int set = 0; set < 1 << stage.scenes; set++) {
      int size = Integer.bitCount(set);
      if (size < fewest && stage.drawnBy(now, set) >= v) {
        best = set;
        fewest = size;
      }
    }
    return best;
  }

  // ---- plans

  public int best(int n) {
    if (!isPlanned(n)) return BAD;
    ahead.weighPlans(n, 0);
    return ahead.best;
  }

  public int ith(int n, int i) {
    if (!isPlanned(n) || !isIn(i, 0, MOST_PLANNED - 1)) return BAD;
    ahead.weighPlans(n, 0);
    return i < ahead.nights ? ahead.first[i] : NONE;
  }

  public int ways(int n) {
    if (!isPlanned(n)) return BAD;
    ahead.weighPlans(n, 0);
    return ahead.ways;
  }

  public int bill(int n, int scenes) {
    if (!isPlanned(n) || !isSetOfScenes(scenes)) return BAD;
    ahead.weighPlans(n, scenes);
    return ahead.fewest;
  }

  public int bars(int n, int scenes) {
    if (!isPlanned(n) || !isSetOfScenes(scenes)) return BAD;
    ahead.weighPlans(n, scenes);
    return leastOf(scenes & ~ahead.settledBySome);
  }

  // ---- a game, strangers, lots

  public int game(int n) {
    if (!isIn(n, 1, MOST_PLANNED)) return BAD;
    return ahead.playGame(n);
  }

  public int play(int n) {
    if (!isIn(n, 1, MOST_PLANNED)) return BAD;
    if (stage.isOver(now)) return NONE;
    ahead.playGame(n);
    return ahead.opening;
  }

  public int report(int k, int asked, int least, int most) {
    if (!isIn(k, 0, Strangers.MOST_NIGHTS) || !isIn(asked, 0, 1)) return BAD;
    int top = asked == 0 ? MOST_TRUTH : MOST_SUM;
    if (!isIn(least, 0, top) || !isIn(most, 0, top) || most < least) return BAD;
    return strangers.add(k, asked, least, most);
  }

  public int forget() {
    int was = strangers.count;
    strangers.count = 0;
    return was;
  }

  public int lone(int what) {
    if (!isIn(what, 0, 3)) return BAD;
    strangers.lookForFits(stage);
    if (what == 0) return strangers.fits;
    if (strangers.fits == 0) return NONE;
    if (what == 1) return strangers.firstKind;
    return what == 2 ? strangers.firstPretty : strangers.firstTruth;
  }

  public int liar() {
    strangers.lookForFits(stage);
    return strangers.fits > 0 ? NONE : leastOf(strangers.blamed);
  }

  public int seed(int v) {
    int was = now.seed;
    now.seed = v;
    return was;
  }

  public int lot() {
    return stage.isOver(now) ? STATE : stage.goByLot(now);
  }

  public int times(int n, int v) {
    if (!isIn(n, 1, MOST_LOTS) || !isIn(v, 0, MOST_SUM)) return BAD;
    return ahead.timesByLot(n, v);
  }

  // ---- rows

  public int prove(int n) {
    if (!isPlanned(n)) return BAD;
    ahead.weighPlans(n, 0);
    ahead.writeRows(rows);
    rowCount = ahead.nights;
    return rowCount;
  }

  public int row(int k, int what) {
    return isInRow(k, what) ? rows[k * ROW_SIZE + what] : NO_ROW;
  }

  public int alterRow(int k, int what, int v) {
    return isInRow(k, what) ? put(rows, k * ROW_SIZE + what, v) : NO_ROW;
  }

  public int judge() {
    return ahead.firstWrongRow(rows, rowCount);
  }

  // ---- the host

  public int sheet(int sheet, int sort, int n) {
    if (!Host.isSheet(sheet) || !isIn(sort, Host.MISSING, Host.BOOLEANS)) return BAD;
    if (sort == Host.MISSING) return host.makeSheet(sheet, Host.MISSING, 0);
    if (n > Host.MOST_ITEMS) return BAD;
    if (n < 0) return SIZE_BELOW_0;
    return host.makeSheet(sheet, sort, n);
  }

  public int write(int sheet, int i, int v) {
    if (!Host.isSheet(sheet)) return BAD;
    if (host.sort[sheet] == Host.MISSING) return NOTHING_THERE;
    if (!host.isItem(sheet, i)) return OUTSIDE;
    host.items[sheet][i] = Host.narrowed(host.sort[sheet], v);
    return 1;
  }

  public int item(int sheet, int sort, int i) {
    if (!Host.isSheet(sheet) || !isIn(sort, 0, Host.BOOLEANS)) return BAD;
    int refusal = host.refusalOf(sheet, sort);
    if (refusal != 0) return refusal;
    return host.isItem(sheet, i) ? host.items[sheet][i] : OUTSIDE;
  }

  public int goAll(int sheet, int i, int n) {
    if (!Host.isSheet(sheet) || !isIn(n, 0, MOST_GOING)) return BAD;
    int refusal = host.refusalOf(sheet, Host.BYTES);
    if (refusal != 0) return refusal;
    int worth = 0;
    for (int j = 0; j < n; j++) {
      if (!host.isItem(sheet, i + j)) return OUTSIDE;
      int act = host.items[sheet][i + j];
      if (stage.isAct(act) && !stage.isOver(now)) worth += stage.goBy(now, act);
    }
    return worth;
  }

  public int wouldBe(int sheet, int i, int n) {
    if (!Host.isSheet(sheet) || !isIn(n, 0, MOST_GOING)) return BAD;
    int refusal = host.refusalOf(sheet, Host.BYTES);
    return refusal != 0 ? refusal : ahead.worthOfItems(host, sheet, i, n);
  }

  public int shelf(int shelf, int what, int n) {
    if (!Host.isShelf(shelf)) return BAD;
    switch (what) {
      case 0: return isScene(n) ? host.hold(shelf, Host.HOLDS_SCENE, n, 0) : BAD;
      case 1: return Host.isSheet(n) ? host.holdRow(shelf, n) : BAD;
      case 2: return host.hold(shelf, Host.HOLDS_NOTHING, 0, 0);
      default: return BAD;
    }
  }

  public int taken(int shelf, int as) {
    boolean isKind = isIn(as, 0, Kind.MATCH);
    if (!Host.isShelf(shelf) || !isKind && !isIn(as, 10, 10 + Host.BOOLEANS)) return BAD;
    if (isNothing(shelf)) return NOTHING_THERE;
    int held = host.held[shelf];
    if (host.holds[shelf] == Host.HOLDS_ROW) return held == as - 10 ? host.heldSize[shelf] : OTHER_SORT;
    return isKind && Kind.isAs(stage.kind[held], as) ? held : OTHER_SORT;
  }

  public int act(int shelf, int act, int x) {
    acting.forgetBodies();
    if (!Host.isShelf(shelf) || !isIn(act, 0, Acting.EXITS)) return 0;
    if (isNothing(shelf) || host.holds[shelf] == Host.HOLDS_ROW) return 0;
    int k = host.held[shelf];
    return acting.perform(stage.kind[k], k, stage.place[k], act, x);
  }

  public int trace(int i) {
    return isIn(i, 0, acting.count - 1) ? acting.bodies[i] : NONE;
  }

  public int many(int what) {
    switch (what) {
      case 0: return stage.scenes;
      case 1: return stage.rules.count;
      case 2: return Integer.bitCount(now.settled);
      case 3: return strangers.count;
      case 4: return rowCount;
      case 5: return reader.size;
      case 6: return acting.count;
      default: return BAD;
    }
  }

  // ---- kept

  public int keep() {
    keptStage.copyFrom(stage);
    keptNow.copyFrom(now);
    keptStrangers.copyFrom(strangers);
    isKept = true;
    return 1;
  }

  public int again() {
    if (!isKept) return NONE;
    stage.copyFrom(keptStage);
    now.copyFrom(keptNow);
    strangers.copyFrom(keptStrangers);
    return stage.scenes;
  }

  // ---- what several calls look at

  private static boolean isIn(int v, int least, int most) {
    return v >= least && v <= most;
  }

  private static boolean isPlace(int f) {
    return isIn(f, 0, MOST_PLACES - 1);
  }

  private static boolean isPlanned(int n) {
    return isIn(n, 0, MOST_PLANNED);
  }

  private boolean isScene(int k) {
    return isIn(k, 0, stage.scenes - 1);
  }

  private boolean isSetOfScenes(int set) {
    return isIn(set, 0, (1 << stage.scenes) - 1);
  }

  private boolean isInRow(int k, int what) {
    return isIn(k, 0, rowCount - 1) && isIn(what, 0, ROW_SIZE - 1);
  }

  /** A shelf keeps a scene's number while again() may take that scene away. */
  private boolean isNothing(int shelf) {
    int holds = host.holds[shelf];
    return holds == Host.HOLDS_NOTHING || holds == Host.HOLDS_SCENE && !isScene(host.held[shelf]);
  }

  private static int leastOf(int set) {
    for (int k = 0; k < MOST_SCENES; k++) {
      if ((set >> k & 1) == 1) return k;
    }
    return NONE;
  }

  private static int put(int[] row, int i, int v) {
    int was = row[i];
    row[i] = v;
    return was;
  }

  /** What the kinds have of their own, told by numbers, since a stage is copied row by row. */
  private static final class Kind {
    static final int SCENE = 0, TRIAL = 1, DUET = 2, SUNSET = 3, CROWD = 4, MATCH = 5;

    /** Whether a kind is another one or under it. */
    static boolean isAs(int kind, int above) {
      if (kind == above || above == SCENE) return true;
      return kind == SUNSET && above == DUET || kind == MATCH && above == CROWD;
    }

    static int learns(int kind, int rail, int truth, int night) {
      int asScene = 8 * rail;
      int asDuet = truth > 40 ? asScene / 2 : asScene;
      int asCrowd = 5 * rail + 4;
      switch (kind) {
        case TRIAL: return asScene + truth / 10;
        case DUET: return asDuet;
        case SUNSET: return Math.max(0, asDuet - 3);
        case CROWD: return asCrowd;
        case MATCH: return night % 2 == 1 ? 0 : asCrowd;
        default: return asScene;
      }
    }

    static int draws(int kind, int pretty, int truth, int number) {
      int asScene = Math.max(0, 10 + pretty - truth / 9);
      switch (kind) {
        case TRIAL: return 9;
        case DUET: return asScene + pretty;
        case SUNSET: return 2 * (asScene + pretty);
        case CROWD: return asScene / 2;
        case MATCH: return asScene / 2 + number;
        default: return asScene;
      }
    }
  }

  /** What changes while nights go by, apart from the stage, so that looking ahead copies little. */
  private static final class Moment {
    final int[] truth = new int[MOST_SCENES];
    final int[] pretty = new int[MOST_SCENES];
    int settled = 0;
    int night = 0;
    int score = 0;
    int seed = 1;

    void copyFrom(Moment other) {
      System.arraycopy(other.truth, 0, truth, 0, MOST_SCENES);
      System.arraycopy(other.pretty, 0, pretty, 0, MOST_SCENES);
      settled = other.settled;
      night = other.night;
      score = other.score;
      seed = other.seed;
    }

    boolean isSettled(int k) {
      return (settled >> k & 1) == 1;
    }
  }

  /** What only calls change, and how a night goes by on it. */
  private static final class Stage {
    private static final int FIRST_END = 12, FIRST_HOUSE = 9;
    private static final int SETTLING_TRUTH = 60, TRIMMED_TRUTH = 10, LEAN_WORTH = 5, CLOSE_TRUTH = 3;

    final int[] kind = new int[MOST_SCENES];
    final int[] place = new int[MOST_SCENES];
    final int[] houses = new int[MOST_HOUSES];
    final int[] light = new int[MOST_PLACES];
    final int[] noise = new int[MOST_PLACES];
    final Rules rules = new Rules();
    private final int[] facts = new int[Rules.FACTS];
    int scenes = 0;
    int end = FIRST_END;

    Stage() {
      for (int i = 0; i < MOST_HOUSES; i++) houses[i] = FIRST_HOUSE;
    }

    void copyFrom(Stage other) {
      System.arraycopy(other.kind, 0, kind, 0, MOST_SCENES);
      System.arraycopy(other.place, 0, place, 0, MOST_SCENES);
      System.arraycopy(other.houses, 0, houses, 0, MOST_HOUSES);
      System.arraycopy(other.light, 0, light, 0, MOST_PLACES);
      System.arraycopy(other.noise, 0, noise, 0, MOST_PLACES);
      rules.copyFrom(other.rules);
      scenes = other.scenes;
      end = other.end;
    }

    boolean isOver(Moment m) {
      return m.night >= end;
    }

    boolean isAct(int act) {
      return act >= 0 && act <= scenes;
    }

    int houseOf(int night) {
      return night >= 0 && night < MOST_HOUSES ? houses[night] : 0;
    }

    int railOf(int night) {
      return night >= 0 && night < MOST_HOUSES ? houses[night] / 4 : 0;
    }

    int scenesIn(int f) {
      int set = 0;
      for (int k = 0; k < scenes; k++) {
        if (place[k] == f) set |= 1 << k;
      }
      return set;
    }

    int leans(Moment m, int k) {
      int count = 0;
      for (int i = 0; i < scenes; i++) {
        if (m.isSettled(i) && place[i] == place[k] - 1) count++;
      }
      return count;
    }

    int learns(Moment m, int k) {
      int alone = Kind.learns(kind[k], railOf(m.night), m.truth[k], m.night);
      return Math.max(0, alone + LEAN_WORTH * leans(m, k) - noise[place[k]]);
    }

    int draws(Moment m, int k) {
      return Kind.draws(kind[k], m.pretty[k], m.truth[k], k) + light[place[k]];
    }

    int drawnBy(Moment m, int set) {
      int sum = 0;
      for (int k = 0; k < scenes; k++) {
        if ((set >> k & 1) == 1) sum += draws(m, k);
      }
      return sum;
    }

    int truthOfAll(Moment m) {
      int sum = 0;
      for (int k = 0; k < scenes; k++) sum += m.truth[k];
      return sum;
    }

    boolean areClose(Moment m, int i, int j) {
      if (m.isSettled(i) || m.isSettled(j)) return false;
      return place[i] == place[j] || Math.abs(m.truth[i] - m.truth[j]) <= CLOSE_TRUTH;
    }

    int will(Moment m, int k) {
      if (rules.count == 0) return MEND;
      facts[0] = m.night;
      facts[1] = m.truth[k];
      facts[2] = m.pretty[k];
      facts[3] = railOf(m.night);
      facts[4] = k;
      return rules.willOf(kind[k], facts);
    }

    boolean mayBeMended(Moment m, int k) {
      return !m.isSettled(k) && learns(m, k) > 0 && will(m, k) == MEND;
    }

    int actOfRest(Moment m) {
      for (int k = 0; k < scenes; k++) {
        if (mayBeMended(m, k)) return k + 1;
      }
      return 0;
    }

    int goBy(Moment m, int act) {
      int k = act - 1;
      int worth = 0;
      if (k >= 0 && k < scenes && !m.isSettled(k)) {
        int will = will(m, k);
        if (will == MEND) worth = mend(m, k);
        if (will == TRIM) worth = trim(m, k);
      }
      for (int i = 0; i < scenes; i++) worth += draws(m, i);
      for (int i = 0; i < scenes; i++) {
        if (!m.isSettled(i)) m.truth[i] = Math.max(0, m.truth[i] - 1);
      }
      m.night++;
      m.score += worth;
      return worth;
    }

    private int mend(Moment m, int k) {
      int more = learns(m, k);
      m.truth[k] = Math.min(MOST_TRUTH, m.truth[k] + more);
      if (m.truth[k] >= SETTLING_TRUTH) m.settled |= 1 << k;
      return more;
    }

    private int trim(Moment m, int k) {
      m.pretty[k] = Math.min(MOST_PRETTY, m.pretty[k] + 1);
      m.truth[k] = Math.max(0, m.truth[k] - TRIMMED_TRUTH);
      return 2 * (houseOf(m.night) % 4);
    }

    int goByLot(Moment m) {
      m.seed = m.seed * 1103515245 + 12345;
      return goBy(m, (m.seed >>> 16) % (scenes + 1));
    }
  }

  /** The rules as they were told: conditions are steps that work on a pile of truths. */
  private static final class Rules {
    static final int MOST_RULES = 8, MOST_STEPS = RuleReader.MOST_BYTES, FACTS = 5;
    /** In a comparison's step, what is as high as this stands for a fact, all below for itself. */
    static final int FIRST_FACT = 10000;

    private final int[] kind = new int[MOST_RULES];
    private final int[] deed = new int[MOST_RULES];
    private final int[] behind = new int[MOST_RULES];
    private final int[] steps = new int[MOST_STEPS];
    private int stepCount = 0;
    int count = 0;

    void clear() {
      stepCount = 0;
      count = 0;
    }

    void copyFrom(Rules other) {
      System.arraycopy(other.kind, 0, kind, 0, MOST_RULES);
      System.arraycopy(other.deed, 0, deed, 0, MOST_RULES);
      System.arraycopy(other.behind, 0, behind, 0, MOST_RULES);
      System.arraycopy(other.steps, 0, steps, 0, MOST_STEPS);
      stepCount = other.stepCount;
      count = other.count;
    }

    /** A step takes no more room than the bytes that tell it, so the test never fails for a text that was read. */
    void addStep(int step) {
      if (stepCount < MOST_STEPS) steps[stepCount++] = step;
    }

    void addRule(int ofKind, int does) {
      if (count >= MOST_RULES) return;
      kind[count] = ofKind;
      deed[count] = does;
      behind[count] = stepCount;
      count++;
    }

    int willOf(int ofKind, int[] facts) {
      int from = 0;
      for (int r = 0; r < count; r++) {
        if (Kind.isAs(ofKind, kind[r]) && holds(from, behind[r], facts)) return deed[r];
        from = behind[r];
      }
      return MEND;
    }

    /** The pile is the bits of an int: three brackets leave at most nine truths on it. */
    private boolean holds(int from, int to, int[] facts) {
      int pile = from == to ? 1 : 0;
      for (int i = from; i < to; i++) {
        int step = steps[i];
        int top = pile & 1;
        if (step == RuleReader.NOT) {
          pile ^= 1;
        } else if (step == RuleReader.AND) {
          pile = pile >>> 1 & (top | ~1);
        } else if (step == RuleReader.OR) {
          pile = pile >>> 1 | top;
        } else if (i + 2 < to) {
          int leftFact = steps[i + 1] - FIRST_FACT;
          int rightFact = steps[i + 2] - FIRST_FACT;
          int left = leftFact >= 0 && leftFact < FACTS ? facts[leftFact] : steps[i + 1];
          int right = rightFact >= 0 && rightFact < FACTS ? facts[rightFact] : steps[i + 2];
          boolean isSo = left == right;
          if (step == RuleReader.LESS) isSo = left < right;
          if (step == RuleReader.MORE) isSo = left > right;
          pile = pile << 1 | (isSo ? 1 : 0);
          i += 2;
        }
      }
      return (pile & 1) == 1;
    }
  }

  /** The tape, and how its text is read into a draft, which counts only if there is no fault. */
  private static final class RuleReader {
    static final int MOST_BYTES = 200;
    private static final int MOST_OPEN = 3, MOST_DIGITS = 4;
    /** A name's token is its place among these. */
    private static final String WORDS =
        "scene trial duet sunset crowd match mend keep trim if not and or night truth pretty rail number ";
    private static final int LAST_KIND = 5, FIRST_DO = 6, LAST_DO = 8, IF = 9;
    private static final int FIRST_FACT_WORD = 13, LAST_FACT_WORD = 17;
    static final int NOT = 10, AND = 11, OR = 12;
    static final int LESS = 20, EQUAL = 21, MORE = 22;
    private static final int OPEN = 23, CLOSE = 24, SEMICOLON = 25, NUMBER = 26, END = 27, WRONG = 28;

    private final int[] tape = new int[MOST_BYTES];
    int size = 0;
    final Rules draft = new Rules();
    int fault = 0;
    /** All tokens are split off before one is read, with the end as the last, so that reading only steps along. */
    private final int[] tokens = new int[MOST_BYTES + 1];
    private final int[] starts = new int[MOST_BYTES + 1];
    private final int[] numbers = new int[MOST_BYTES + 1];
    private int at = 0;
    private int token = END;

    boolean hasRoomFor(int n) {
      return size + n <= MOST_BYTES;
    }

    void take(long eight, int n) {
      for (int i = 0; i < n && size < MOST_BYTES; i++) tape[size++] = (int) (eight >>> 8 * i & 255);
    }

    boolean readAndUseUp() {
      split();
      draft.clear();
      at = 0;
      token = tokens[0];
      boolean isGood = true;
      for (int r = 0; r <= Rules.MOST_RULES && isGood && token != END; r++) isGood = readRule();
      size = 0;
      return isGood;
    }

    private void split() {
      int count = 0;
      for (int i = 0; i < size; i++) {
        if (tape[i] == ' ') continue;
        int end = endOfToken(i);
        tokens[count] = tokenOf(i, end);
        starts[count] = i;
        numbers[count] = tokens[count] == NUMBER ? numberOf(i, end) : 0;
        count++;
        i = end - 1;
      }
      tokens[count] = END;
      starts[count] = size;
    }

    /** Names and numbers go as far as they can, all else is a token by itself. */
    private int endOfToken(int start) {
      int end = start + 1;
      if (isLetter(tape[start])) {
        while (end < size && isLetter(tape[end])) end++;
      } else if (isDigit(tape[start])) {
        while (end < size && isDigit(tape[end])) end++;
      }
      return end;
    }

    private int tokenOf(int start, int end) {
      if (isLetter(tape[start])) return wordOf(start, end);
      if (isDigit(tape[start])) return end - start <= MOST_DIGITS ? NUMBER : WRONG;
      switch (tape[start]) {
        case '<': return LESS;
        case '=': return EQUAL;
        case '>': return MORE;
        case '(': return OPEN;
        case ')': return CLOSE;
        case ';': return SEMICOLON;
        default: return WRONG;
      }
    }

    private int numberOf(int start, int end) {
      int number = 0;
      for (int i = start; i < end; i++) number = number * 10 + tape[i] - '0';
      return number;
    }

    private int wordOf(int start, int end) {
      int word = 0;
      int wordStart = 0;
      for (int i = 0; i < WORDS.length(); i++) {
        if (WORDS.charAt(i) != ' ') continue;
        if (isSpelt(start, end, wordStart, i)) return word;
        word++;
        wordStart = i + 1;
      }
      return WRONG;
    }

    private boolean isSpelt(int start, int end, int wordStart, int wordEnd) {
      if (end - start != wordEnd - wordStart) return false;
      for (int i = 0; i < end - start; i++) {
        if (tape[start + i] != WORDS.charAt(wordStart + i)) return false;
      }
      return true;
    }

    private void advance() {
      if (at < MOST_BYTES && token != END) at++;
      token = tokens[at];
    }

    private boolean refuse() {
      fault = starts[at];
      return false;
    }

    private boolean readRule() {
      if (draft.count >= Rules.MOST_RULES || token > LAST_KIND) return refuse();
      int kind = token;
      advance();
      if (token == IF) {
        advance();
        if (!readCondition(0)) return false;
      }
      if (token < FIRST_DO || token > LAST_DO) return refuse();
      int deed = token - FIRST_DO;
      advance();
      if (token != SEMICOLON) return refuse();
      advance();
      draft.addRule(kind, deed);
      return true;
    }

    private boolean readCondition(int open) {
      if (!readAll(open)) return false;
      for (int i = 0; i < MOST_BYTES && token == OR; i++) {
        advance();
        if (!readAll(open)) return false;
        draft.addStep(OR);
      }
      return true;
    }

    private boolean readAll(int open) {
      if (!readOne(open)) return false;
      for (int i = 0; i < MOST_BYTES && token == AND; i++) {
        advance();
        if (!readOne(open)) return false;
        draft.addStep(AND);
      }
      return true;
    }

    private boolean readOne(int open) {
      boolean isTurned = false;
      for (int i = 0; i < MOST_BYTES && token == NOT; i++) {
        isTurned = !isTurned;
        advance();
      }
      boolean isGood = token == OPEN ? readBracket(open) : readComparison();
      if (isGood && isTurned) draft.addStep(NOT);
      return isGood;
    }

    private boolean readBracket(int open) {
      if (open >= MOST_OPEN) return refuse();
      advance();
      if (!readCondition(open + 1)) return false;
      if (token != CLOSE) return refuse();
      advance();
      return true;
    }

    private boolean readComparison() {
      if (!isValue()) return refuse();
      int left = toldValue();
      advance();
      if (token < LESS || token > MORE) return refuse();
      int sign = token;
      advance();
      if (!isValue()) return refuse();
      draft.addStep(sign);
      draft.addStep(left);
      draft.addStep(toldValue());
      advance();
      return true;
    }

    private boolean isValue() {
      return token == NUMBER || token >= FIRST_FACT_WORD && token <= LAST_FACT_WORD;
    }

    private int toldValue() {
      return token == NUMBER ? numbers[at] : Rules.FIRST_FACT + token - FIRST_FACT_WORD;
    }

    private static boolean isLetter(int sign) {
      return sign >= 'a' && sign <= 'z';
    }

    private static boolean isDigit(int sign) {
      return sign >= '0' && sign <= '9';
    }
  }

  /** What would be: all of it happens in moments of its own, so that now stays as it is. */
  private static final class Ahead {
    private final Stage stage;
    private final Moment now;
    private final Moment[] moments = new Moment[MOST_PLANNED + 1];
    private final int[] acts = new int[MOST_PLANNED];
    private int wanted = 0;

    int nights = 0;
    int best = 0;
    int ways = 0;
    final int[] first = new int[MOST_PLANNED];
    int fewest = NONE;
    int settledBySome = 0;
    int opening = 0;

    Ahead(Stage stage, Moment now) {
      this.stage = stage;
      this.now = now;
      for (int i = 0; i < moments.length; i++) moments[i] = new Moment();
    }

    private Moment fromNow() {
      moments[0].copyFrom(now);
      return moments[0];
    }

    int worthOfRest(int n) {
      Moment m = fromNow();
      for (int i = 0; i < n && !stage.isOver(m); i++) stage.goBy(m, stage.actOfRest(m));
      return m.score - now.score;
    }

    int settlingNight(int k) {
      Moment m = fromNow();
      if (m.isSettled(k)) return NONE;
      for (int i = 0; i < MOST_END && !stage.isOver(m); i++) {
        stage.goBy(m, stage.actOfRest(m));
        if (m.isSettled(k)) return m.night - 1;
      }
      return NONE;
    }

    int trueNight(int v) {
      Moment m = fromNow();
      for (int i = 0; i < MOST_END && stage.truthOfAll(m) < v && !stage.isOver(m); i++) {
        stage.goBy(m, stage.actOfRest(m));
      }
      return stage.truthOfAll(m) >= v ? m.night : NONE;
    }

    int timesByLot(int n, int v) {
      int count = 0;
      int seed = now.seed;
      for (int i = 0; i < n; i++) {
        Moment m = fromNow();
        m.seed = seed;
        for (int j = 0; j < MOST_END && !stage.isOver(m); j++) stage.goByLot(m);
        seed = m.seed;
        if (m.score - now.score >= v) count++;
      }
      return count;
    }

    int worthOfItems(Host host, int sheet, int i, int n) {
      Moment m = fromNow();
      for (int j = 0; j < n; j++) {
        if (!host.isItem(sheet, i + j)) return OUTSIDE;
        int act = host.items[sheet][i + j];
        if (!stage.isAct(act) || stage.isOver(m)) return STATE;
        stage.goBy(m, act);
      }
      return m.score - now.score;
    }

    private int nightsOf(int n) {
      return Math.max(0, Math.min(n, stage.end - now.night));
    }

    /** Goes through all plans once, for each of the questions about them. */
    void weighPlans(int n, int wantedScenes) {
      nights = nightsOf(n);
      wanted = wantedScenes;
      best = -1;
      ways = 0;
      fewest = NONE;
      settledBySome = 0;
      fromNow();
      goThroughPlans(0, 0);
    }

    /** Acts come from the least, so that the first of the best plans is met first. */
    private void goThroughPlans(int depth, int told) {
      if (depth >= nights || depth >= MOST_PLANNED) {
        weighPlan(moments[depth], told);
        return;
      }
      Moment next = moments[depth + 1];
      for (int act = 0; act <= stage.scenes; act++) {
        next.copyFrom(moments[depth]);
        stage.goBy(next, act);
        acts[depth] = act;
        goThroughPlans(depth + 1, act == 0 ? told : told + 1);
      }
    }

    private void weighPlan(Moment m, int told) {
      int worth = m.score - now.score;
      if (worth > best) {
        best = worth;
        ways = 0;
        System.arraycopy(acts, 0, first, 0, MOST_PLANNED);
      }
      if (worth == best) ways++;
      if ((m.settled & wanted) == wanted && (fewest == NONE || told < fewest)) fewest = told;
      settledBySome |= m.settled;
    }

    int playGame(int n) {
      nights = nightsOf(n);
      fromNow();
      return valueOfGame(0);
    }

    private int valueOfGame(int depth) {
      if (depth >= nights || depth >= MOST_PLANNED) return moments[depth].score - now.score;
      boolean wantsMuch = depth % 2 == 0;
      int value = 0;
      Moment next = moments[depth + 1];
      for (int act = 0; act <= stage.scenes; act++) {
        next.copyFrom(moments[depth]);
        stage.goBy(next, act);
        int reached = valueOfGame(depth + 1);
        if (act == 0 || (wantsMuch ? reached > value : reached < value)) {
          value = reached;
          if (depth == 0) opening = act;
        }
      }
      return value;
    }

    void writeRows(int[] rows) {
      Moment m = fromNow();
      for (int k = 0; k < nights; k++) {
        rows[k * ROW_SIZE] = first[k];
        rows[k * ROW_SIZE + 1] = stage.goBy(m, first[k]);
        rows[k * ROW_SIZE + 2] = m.settled;
      }
    }

    int firstWrongRow(int[] rows, int count) {
      Moment m = fromNow();
      for (int k = 0; k < count; k++) {
        int act = rows[k * ROW_SIZE];
        if (!stage.isAct(act) || stage.isOver(m)) return k + 1;
        int worth = stage.goBy(m, act);
        if (rows[k * ROW_SIZE + 1] != worth || rows[k * ROW_SIZE + 2] != m.settled) return k + 1;
      }
      return 0;
    }
  }

  /** Reports of a lone scene, and which lone scenes they fit. */
  private static final class Strangers {
    static final int MOST_REPORTS = 6, MOST_NIGHTS = 15;
    private static final int MOST_FIRST_TRUTH = 54, TRUTH_STEP = 6;

    private final int[] nights = new int[MOST_REPORTS];
    private final int[] asked = new int[MOST_REPORTS];
    private final int[] least = new int[MOST_REPORTS];
    private final int[] most = new int[MOST_REPORTS];
    int count = 0;

    int fits = 0;
    int firstKind = 0;
    int firstPretty = 0;
    int firstTruth = 0;
    /** Those reports for which alone some lone scene does not fit. */
    int blamed = 0;

    void copyFrom(Strangers other) {
      System.arraycopy(other.nights, 0, nights, 0, MOST_REPORTS);
      System.arraycopy(other.asked, 0, asked, 0, MOST_REPORTS);
      System.arraycopy(other.least, 0, least, 0, MOST_REPORTS);
      System.arraycopy(other.most, 0, most, 0, MOST_REPORTS);
      count = other.count;
    }

    int add(int behind, int what, int from, int to) {
      if (count >= MOST_REPORTS) return FULL;
      nights[count] = behind;
      asked[count] = what;
      least[count] = from;
      most[count] = to;
      return count++;
    }

    void lookForFits(Stage stage) {
      fits = 0;
      blamed = 0;
      int last = lastNight();
      for (int kind = 1; kind <= Kind.MATCH; kind++) {
        for (int pretty = 0; pretty <= MOST_PRETTY; pretty++) {
          for (int truth = 0; truth <= MOST_FIRST_TRUTH; truth += TRUTH_STEP) {
            int missed = missedBy(stage, last, kind, pretty, truth);
            if (missed == 0) countFit(kind, pretty, truth);
            if (Integer.bitCount(missed) == 1) blamed |= missed;
          }
        }
      }
    }

    private void countFit(int kind, int pretty, int truth) {
      fits++;
      if (fits > 1) return;
      firstKind = kind;
      firstPretty = pretty;
      firstTruth = truth;
    }

    /** Behind it no report looks, so that a lone scene need not be followed further. */
    private int lastNight() {
      int last = -1;
      for (int r = 0; r < count; r++) last = Math.max(last, nights[r]);
      return last;
    }

    private int missedBy(Stage stage, int last, int kind, int pretty, int firstOne) {
      int missed = 0;
      int truth = firstOne;
      int drawn = 0;
      for (int n = 0; n <= last; n++) {
        missed |= missedBehind(n, truth, drawn);
        truth = Math.min(MOST_TRUTH, truth + Kind.learns(kind, stage.railOf(n), truth, n));
        drawn += Kind.draws(kind, pretty, truth, 0);
      }
      return missed;
    }

    private int missedBehind(int n, int truth, int drawn) {
      int missed = 0;
      for (int r = 0; r < count; r++) {
        if (nights[r] != n) continue;
        int was = asked[r] == 0 ? truth : drawn;
        if (was < least[r] || was > most[r]) missed |= 1 << r;
      }
      return missed;
    }
  }

  /** Sheets and shelves. A shelf keeps the row that a sheet had, also when the sheet gets another one. */
  private static final class Host {
    static final int MISSING = -1, BYTES = 0, SHORTS = 1, BOOLEANS = 4;
    static final int HOLDS_NOTHING = 0, HOLDS_SCENE = 1, HOLDS_ROW = 2;
    static final int MOST_ITEMS = 40;
    private static final int SHEETS = 4, SHELVES = 4;

    final int[] sort = {MISSING, MISSING, MISSING, MISSING};
    private final int[] size = new int[SHEETS];
    final int[][] items = new int[SHEETS][MOST_ITEMS];
    final int[] holds = new int[SHELVES];
    /** A scene's number or a row's sort: of a row no more is ever asked than its sort and size. */
    final int[] held = new int[SHELVES];
    final int[] heldSize = new int[SHELVES];

    static boolean isSheet(int sheet) {
      return sheet >= 0 && sheet < SHEETS;
    }

    static boolean isShelf(int shelf) {
      return shelf >= 0 && shelf < SHELVES;
    }

    boolean isItem(int sheet, int i) {
      return i >= 0 && i < size[sheet];
    }

    int makeSheet(int sheet, int ofSort, int n) {
      sort[sheet] = ofSort;
      size[sheet] = n;
      for (int i = 0; i < MOST_ITEMS; i++) items[sheet][i] = 0;
      return 1;
    }

    int refusalOf(int sheet, int asSort) {
      if (sort[sheet] == MISSING) return NOTHING_THERE;
      return sort[sheet] == asSort ? 0 : OTHER_SORT;
    }

    /** Of longs only the lowest 32 bits are ever asked for, so an int holds them. */
    static int narrowed(int toSort, int v) {
      switch (toSort) {
        case BYTES: return (byte) v;
        case SHORTS: return (short) v;
        case BOOLEANS: return v != 0 ? 1 : 0;
        default: return v;
      }
    }

    int hold(int shelf, int what, int thing, int n) {
      holds[shelf] = what;
      held[shelf] = thing;
      heldSize[shelf] = n;
      return 1;
    }

    int holdRow(int shelf, int sheet) {
      int what = sort[sheet] == MISSING ? HOLDS_NOTHING : HOLDS_ROW;
      return hold(shelf, what, sort[sheet], size[sheet]);
    }
  }

  /** A scene as a thing of its kind: which bodies run for its acts, and their trace. */
  private static final class Acting {
    static final int ENTERS = 0, SPEAKS = 1, HALVES = 2, EXITS = 3;
    private static final int ACTS = 4, MOST_KEPT = 30, DEEPEST = 20;
    /** The body that each kind has for each act. */
    private static final int[] BODY_OF = {
      10, 11, 12, 13,
      20, 11, 12, 13,
      10, 30, 12, 13,
      50, 30, 12, 51,
      10, 11, 40, 13,
      10, 60, 61, 13};

    final int[] bodies = new int[MOST_KEPT];
    int count = 0;
    private boolean isParted = false;
    private int kind = 0;
    private int n = 0;
    private int a = 0;

    void forgetBodies() {
      count = 0;
    }

    int perform(int ofKind, int number, int place, int act, int x) {
      isParted = false;
      kind = ofKind;
      n = number;
      a = place;
      int answer = does(act, x, 0);
      return isParted ? PARTED_BY_0 : answer;
    }

    private int does(int act, int x, int depth) {
      return run(BODY_OF[kind * ACTS + act], x, depth + 1);
    }

    /** Once something was parted by 0 nothing begins any more. */
    private int run(int body, int x, int depth) {
      if (isParted || depth > DEEPEST) return 0;
      if (count < MOST_KEPT) bodies[count++] = body;
      int deeper = depth + 1;
      switch (body) {
        case 10: return x * 6 + n;
        case 11: return does(ENTERS, x, deeper) - a;
        case 12: return part(x, a + n - 3);
        case 13: return does(SPEAKS, x, deeper) + does(HALVES, x, deeper);
        case 20: return run(10, x, deeper) ^ 10;
        case 30: return run(11, x, deeper) * 2;
        case 40: return run(12, x, deeper) + 6;
        case 50: return run(10, x + 7, deeper);
        case 51: return run(13, x, deeper) - does(SPEAKS, a, deeper);
        case 60: return 0 - run(11, x, deeper);
        case 61: return run(40, x, deeper) ^ does(ENTERS, n, deeper);
        default: return 0;
      }
    }

    private int part(int x, int by) {
      if (by == 0) {
        isParted = true;
        return 0;
      }
      return x / by;
    }
  }
}
