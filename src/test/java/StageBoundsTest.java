/** The boundary cases of promises 1 to 11: the stage, its scenes, what they learn and draw. */
public final class StageBoundsTest extends Bounds {
  public static void main(String[] args) {
    aNewObject();
    atFirst();
    calls512();
    sceneRanges();
    sceneNumbers();
    sceneNotSettled();
    sceneOfRanges();
    learnsByRail();
    learnsByTruth();
    learnsByNight();
    leans();
    noise();
    draws();
    mayBeMended();
    change();
    remake();
    house();
    place();
    placeOf();
    ends();
    anew();
    state();
    end("StageBoundsTest", promises(1, 11));
  }

  /** One scene of a kind in place 3, in a night whose house is told. */
  private static PlayedTruth one(int kind, int truth, int pretty, int night, int house) {
    PlayedTruth p = new PlayedTruth();
    p.ends(16);
    p.scene(kind, 0, pretty, 3);
    for (int i = 0; i < night; i++) p.lot();
    p.change(0, 1, truth);
    p.change(0, 2, pretty);
    p.change(0, 4, 0);
    p.house(night, house);
    return p;
  }

  private static int learns(int kind, int truth, int night, int house) {
    return one(kind, truth, 0, night, house).sceneOf(0, 5);
  }

  private static int draws(int kind, int truth, int pretty) {
    return one(kind, truth, pretty, 0, 9).sceneOf(0, 6);
  }

  private static void aNewObject() {
    says(1, "No SCENES, RULES, REPORTS; nothing is kept.");
    PlayedTruth p = new PlayedTruth();
    due("many(0)", p.many(0), 0);
    due("many(1)", p.many(1), 0);
    due("many(3)", p.many(3), 0);
    due("sceneOf(0, 0)", p.sceneOf(0, 0), BAD);
    due("liar()", p.liar(), NONE);
    due("lone(0): every one fits", p.lone(0), 500);
    refused("again()", NONE, PlayedTruth::new, PlayedTruth::again);
    due("scene, the first", p.scene(5, 0, 0, 0), 0);
    due("sceneOf(0, 9), no rule tells", p.sceneOf(0, 9), 0);
    due("report, the first", p.report(0, 0, 0, 99), 0);
    due("another object has none of it", new PlayedTruth().many(0), 0);
    due("and nothing kept", new PlayedTruth().again(), NONE);
  }

  private static void atFirst() {
    PlayedTruth p = new PlayedTruth();
    says(1, "END is 1 to 16 (12 at first)");
    due("state(1)", p.state(1), 12);
    says(1, "the one that comes (0 at first)");
    due("state(0)", p.state(0), 0);
    due("state(3)", p.state(3), 0);
    says(1, "9 at first (behind NIGHT 15: 0)");
    due("state(5)", p.state(5), 9);
    for (int i = 0; i < 16; i++) due("house(" + i + ", 1)", p.house(i, 1), 9);
    says(1, "each have LIGHT, NOISE (0 to 9; 0 at first)");
    for (int f = 0; f < 6; f++) {
      due("placeOf(" + f + ", 0)", p.placeOf(f, 0), 0);
      due("placeOf(" + f + ", 1)", p.placeOf(f, 1), 0);
    }
    says(1, "what NIGHTS were WORTH (0 at first)");
    due("state(2)", p.state(2), 0);
    says(1, "z (an int; 1 at first)");
    due("seed(0)", p.seed(0), 1);
    says(1, "40 at most, or missing (at first)");
    for (int sheet = 0; sheet < 4; sheet++) due("item(" + sheet + ", 0, 0)", p.item(sheet, 0, 0), NOTHING);
    says(1, "a SHEET's row, or nothing (at first)");
    for (int shelf = 0; shelf < 4; shelf++) due("taken(" + shelf + ", 0)", p.taken(shelf, 0), NOTHING);
    says(1, "THE TAPE takes bytes, 200 at most; rules() uses it up.");
    due("many(5)", p.many(5), 0);
    says(1, "ROWS of the FIRST of the BEST PLANS");
    due("many(4), no rows", p.many(4), 0);
    due("row(0, 0)", p.row(0, 0), NO_ROW);
    due("judge()", p.judge(), 0);
    says(1, "numbers of the bodies that ran in the latest act()");
    due("many(6)", p.many(6), 0);
    due("trace(0)", p.trace(0), NONE);
  }

  private static void calls512() {
    says(1, "An object is used for at most 512 calls after it has been made");
    PlayedTruth p = new PlayedTruth();
    p.scene(2, 40, 6, 1);
    for (int i = 0; i < 170; i++) {
      p.anew();
      p.change(0, 1, 40);
      due("night " + i, p.night(), 16 + 10 + 6 - 6 + 6);
    }
    due("the 512th call", p.state(0), 1);
  }

  private static void sceneRanges() {
    says(2, "A SCENE of a KIND 1 to 5: its number.");
    refusedEverywhere("scene of kind 0", BAD, p -> p.scene(0, 1, 3, 1));
    refusedEverywhere("scene of kind 6", BAD, p -> p.scene(6, 1, 3, 1));
    refusedEverywhere("scene of the least kind", BAD, p -> p.scene(LEAST, 1, 3, 1));
    refusedEverywhere("scene of the most kind", BAD, p -> p.scene(MOST, 1, 3, 1));
    for (int kind = 1; kind <= 5; kind++) {
      PlayedTruth p = new PlayedTruth();
      due("scene of kind " + kind, p.scene(kind, 1, 3, 1), 0);
      due("its kind", p.sceneOf(0, 0), kind);
    }
    says(2, "a KIND, TRUTH (0 to 99), PRETTY (0 to 9), a PLACE");
    int[] none = {-1, LEAST, MOST};
    for (int v : none) {
      refusedEverywhere("truth " + v, BAD, p -> p.scene(1, v, 3, 1));
      refusedEverywhere("pretty " + v, BAD, p -> p.scene(1, 1, v, 1));
      refusedEverywhere("place " + v, BAD, p -> p.scene(1, 1, 3, v));
    }
    refusedEverywhere("truth 100", BAD, p -> p.scene(1, 100, 3, 1));
    refusedEverywhere("pretty 10", BAD, p -> p.scene(1, 1, 10, 1));
    refusedEverywhere("place 6", BAD, p -> p.scene(1, 1, 3, 6));
    PlayedTruth p = new PlayedTruth();
    due("the least of all", p.scene(1, 0, 0, 0), 0);
    due("the most of all", p.scene(1, 99, 9, 5), 1);
    int[] most = {1, 99, 9, 5};
    for (int what = 1; what <= 3; what++) {
      due("sceneOf(0, " + what + ")", p.sceneOf(0, what), 0);
      due("sceneOf(1, " + what + ")", p.sceneOf(1, what), most[what]);
    }
  }

  private static void sceneNumbers() {
    says(2, "SCENES, 6 at most, numbered as they come");
    PlayedTruth p = new PlayedTruth();
    for (int k = 0; k < 6; k++) {
      due("a refused one takes no number", p.scene(6, 0, 0, 0), BAD);
      due("scene", p.scene(1 + k % 5, k, k, k), k);
      due("many(0)", p.many(0), k + 1);
    }
    due("the seventh", p.scene(1, 0, 0, 0), FULL);
    due("many(0)", p.many(0), 6);
    refused("the seventh", FULL, Bounds::full, q -> q.scene(5, 99, 9, 5));
    says(2, "of several the first named: BAD (-1)");
    refused("the seventh of kind 0", BAD, Bounds::full, q -> q.scene(0, 0, 0, 0));
    refused("the seventh of truth 100", BAD, Bounds::full, q -> q.scene(1, 100, 0, 0));
    refused("the seventh of pretty 10", BAD, Bounds::full, q -> q.scene(1, 0, 10, 0));
    refused("the seventh in place 6", BAD, Bounds::full, q -> q.scene(1, 0, 0, 6));
  }

  private static void sceneNotSettled() {
    says(2, "SETTLED or not (at first)");
    PlayedTruth p = new PlayedTruth();
    p.scene(1, 99, 0, 0);
    due("sceneOf(0, 4) at truth 99", p.sceneOf(0, 4), 0);
    p.keep();
    p.scene(1, 99, 0, 0);
    p.change(1, 4, 1);
    p.again();
    due("number 1 comes again", p.scene(1, 99, 0, 0), 1);
    due("sceneOf(1, 4), though another one was", p.sceneOf(1, 4), 0);
  }

  private static void sceneOfRanges() {
    says(3, "Of a SCENE: what = 0 KIND");
    int[] none = {-1, 10, 11, LEAST, MOST};
    for (int what : none) {
      refused("sceneOf(0, " + what + ")", BAD, Bounds::usual, p -> p.sceneOf(0, what));
      refused("sceneOf(5, " + what + ")", BAD, Bounds::full, p -> p.sceneOf(5, what));
    }
    int[] nobody = {-1, 6, LEAST, MOST};
    for (int k : nobody) {
      refusedEverywhere("sceneOf(" + k + ", 0)", BAD, p -> p.sceneOf(k, 0));
      refusedEverywhere("sceneOf(" + k + ", 9)", BAD, p -> p.sceneOf(k, 9));
    }
    refused("sceneOf(0, 0) of none", BAD, PlayedTruth::new, p -> p.sceneOf(0, 0));
    refused("sceneOf(5, 4) of five", BAD, Bounds::usual, p -> p.sceneOf(5, 4));
    PlayedTruth p = full();
    int[] last = {1, 45, 5, 5, 1, 16 + 4 + 0 - 0, 9, 0, 0, 0};
    for (int what = 0; what <= 9; what++) due("sceneOf(5, " + what + ") of six", p.sceneOf(5, what), last[what]);
    due("sceneOf(0, 0) of six", p.sceneOf(0, 0), 1);
  }

  private static void learnsByRail() {
    says(3, "4 times RAIL (0 to 3), and how many CRITICS (0 to 3)");
    for (int house = 0; house <= 15; house++) {
      due("a trial of 0, house " + house, learns(1, 0, 0, house), house / 4 * 8);
      due("a crowd, house " + house, learns(4, 0, 0, house), house / 4 * 5 + 4);
    }
    says(3, "sunset: as duet, less 3 (0 at least).");
    due("sunset, no rail", learns(3, 0, 0, 3), 0);
    due("sunset, no rail, so true", learns(3, 99, 0, 0), 0);
    due("sunset, rail 1", learns(3, 40, 0, 4), 5);
    due("sunset, rail 1, above 40", learns(3, 41, 0, 4), 1);
  }

  private static void learnsByTruth() {
    says(3, "trial: as scene, and a tenth of TRUTH.");
    int[] truths = {0, 9, 10, 19, 20, 59, 60, 89, 90, 99};
    int[] tenths = {0, 0, 1, 1, 2, 5, 6, 8, 9, 9};
    for (int i = 0; i < truths.length; i++) due("trial of " + truths[i], learns(1, truths[i], 0, 4), 8 + tenths[i]);
    says(3, "duet: as scene, half of that, if TRUTH is above 40.");
    for (int rail = 0; rail <= 3; rail++) {
      due("duet of 0, rail " + rail, learns(2, 0, 0, 4 * rail), 8 * rail);
      due("duet of 40, rail " + rail, learns(2, 40, 0, 4 * rail), 8 * rail);
      due("duet of 41, rail " + rail, learns(2, 41, 0, 4 * rail), 4 * rail);
      due("duet of 99, rail " + rail, learns(2, 99, 0, 4 * rail), 4 * rail);
    }
    says(3, "crowd: 5 for each of RAIL, and 4.");
    due("crowd of 0", learns(4, 0, 0, 15), 19);
    due("crowd of 99", learns(4, 99, 0, 15), 19);
  }

  private static void learnsByNight() {
    says(3, "match: as crowd, but 0 in odd NIGHTS.");
    for (int night = 0; night <= 15; night++) due("night " + night, learns(5, 7, night, 8), night % 2 == 0 ? 14 : 0);
    says(3, "9 at first (behind NIGHT 15: 0)");
    int[] behind = {0, 3, 0, 0, 4, 4};
    for (int kind = 1; kind <= 5; kind++) {
      PlayedTruth p = one(kind, 0, 0, 15, 15);
      due("night 15, kind " + kind, p.sceneOf(0, 5), kind == 5 ? 0 : kind == 4 ? 19 : kind == 3 ? 21 : 24);
      p.lot();
      p.change(0, 1, 39);
      due("night 16, kind " + kind, p.sceneOf(0, 5), behind[kind]);
      due("night 16, no house", p.state(5), 0);
    }
  }

  private static void leans() {
    says(3, "(those that are SETTLED, in the PLACE of 1 less)");
    PlayedTruth p = new PlayedTruth();
    p.house(0, 0);
    for (int f = 0; f < 6; f++) p.scene(1, 0, 0, f);
    for (int k = 0; k < 6; k++) due("none is settled, place " + k, p.sceneOf(k, 7), 0);
    for (int k = 0; k < 6; k++) p.change(k, 4, 1);
    due("place 0: there is no place of 1 less", p.sceneOf(0, 7), 0);
    due("place 0", p.sceneOf(0, 5), 0);
    for (int k = 1; k < 6; k++) {
      due("place " + k, p.sceneOf(k, 7), 1);
      due("place " + k, p.sceneOf(k, 5), 5);
    }
    says(3, "To that 5 is added for each SCENE it LEANS on");
    for (int k = 0; k < 5; k++) p.change(k, 3, 4);
    due("on five", p.sceneOf(5, 7), 5);
    due("on five", p.sceneOf(5, 5), 25);
    due("not on those of its own place", p.sceneOf(0, 7), 0);
    p.change(2, 4, 0);
    due("on four", p.sceneOf(5, 7), 4);
    due("on four", p.sceneOf(5, 5), 20);
    p.change(5, 3, 3);
    due("not on those of the place of 1 more", p.sceneOf(5, 7), 0);
    due("those lean on it", p.sceneOf(0, 7), 1);
    due("also one that isn't settled itself", p.sceneOf(2, 7), 1);
  }

  private static void noise() {
    says(3, "NOISE of its PLACE is taken (0 at least)");
    PlayedTruth p = new PlayedTruth();
    p.house(0, 4);
    p.scene(1, 0, 0, 3);
    p.place(3, 1, 7);
    due("8 less 7", p.sceneOf(0, 5), 1);
    p.place(3, 1, 8);
    due("8 less 8", p.sceneOf(0, 5), 0);
    p.place(3, 1, 9);
    due("8 less 9", p.sceneOf(0, 5), 0);
    p.house(0, 3);
    due("0 less 9", p.sceneOf(0, 5), 0);
    p.scene(1, 0, 0, 2);
    p.change(1, 4, 1);
    p.scene(1, 0, 0, 2);
    p.change(2, 4, 1);
    due("0 and 10 less 9: what it leans on is added ahead", p.sceneOf(0, 5), 1);
    due("another place has none", p.placeOf(2, 1), 0);
  }

  private static void draws() {
    says(3, "less a ninth of TRUTH (0 at least)");
    int[] truths = {0, 8, 9, 17, 18, 89, 90, 98, 99};
    int[] ninths = {0, 0, 1, 1, 2, 9, 10, 10, 11};
    for (int i = 0; i < truths.length; i++) {
      due("a duet of pretty 1, truth " + truths[i], draws(2, truths[i], 1), 11 - ninths[i] + 1);
    }
    due("a duet of pretty 0, truth 90: 10 less 10", draws(2, 90, 0), 0);
    due("a duet of pretty 0, truth 99: 10 less 11", draws(2, 99, 0), 0);
    due("a duet of pretty 2, truth 99: 12 less 11, and 2", draws(2, 99, 2), 3);
    due("a duet of pretty 9, truth 0", draws(2, 0, 9), 28);
    says(3, "trial: 9.");
    due("trial, the least of all", draws(1, 0, 0), 9);
    due("trial, the most of all", draws(1, 99, 9), 9);
    says(3, "sunset: twice a duet.");
    due("sunset 0 at least", draws(3, 99, 0), 0);
    due("sunset of pretty 1, truth 99", draws(3, 99, 1), 2);
    due("sunset of pretty 9, truth 0", draws(3, 0, 9), 56);
    says(3, "crowd: half of a scene's.");
    due("crowd 0 at least", draws(4, 99, 0), 0);
    says(3, "Quotients are cut towards 0.");
    due("crowd, half of 1", draws(4, 99, 2), 0);
    due("crowd, half of 2", draws(4, 99, 3), 1);
    due("crowd, half of 19", draws(4, 0, 9), 9);
    says(3, "match: as crowd, and its number.");
    PlayedTruth p = new PlayedTruth();
    for (int k = 0; k < 6; k++) {
      p.scene(5, 99, 0, 5);
      due("match " + k, p.sceneOf(k, 6), k);
    }
    says(3, "To that LIGHT of its PLACE is added.");
    p.place(5, 0, 9);
    due("match 5 in light 9", p.sceneOf(5, 6), 14);
    p.place(5, 0, 1);
    due("match 0 in light 1", p.sceneOf(0, 6), 1);
    p.remake(0, 3);
    due("a sunset's light isn't taken twice", p.sceneOf(0, 6), 1);
    p.remake(0, 4);
    due("a crowd's light isn't halved", p.sceneOf(0, 6), 1);
    p.remake(0, 1);
    due("a trial has light too", p.sceneOf(0, 6), 10);
  }

  private static void mayBeMended() {
    says(3, "it is not SETTLED, its WILL is to mend, and it LEARNS more than 0.");
    PlayedTruth p = one(1, 9, 0, 0, 0);
    due("learns 0", p.sceneOf(0, 5), 0);
    due("so it may not", p.sceneOf(0, 8), 0);
    p.change(0, 1, 10);
    due("learns 1", p.sceneOf(0, 5), 1);
    due("so it may", p.sceneOf(0, 8), 1);
    p.change(0, 4, 1);
    due("settled", p.sceneOf(0, 8), 0);
    due("what it learns, settled or not", p.sceneOf(0, 5), 1);
    p.change(0, 4, 0);
    int[] wills = {1, 0, 0};
    String[] deeds = {"mend", "keep", "trim"};
    for (int will = 0; will <= 2; will++) {
      Check.tell(p, "trial " + deeds[will] + ";");
      due("will " + deeds[will], p.sceneOf(0, 9), will);
      due("may, by " + deeds[will], p.sceneOf(0, 8), wills[will]);
    }
    says(3, "mend (if no RULE tells)");
    Check.tell(p, "trial if truth = 9 keep; duet keep; sunset keep; crowd keep; match keep;");
    due("none holds for it", p.sceneOf(0, 9), 0);
    p.change(0, 1, 9);
    due("one holds", p.sceneOf(0, 9), 1);
    p.rules();
    due("no rules", p.sceneOf(0, 9), 0);
  }

  private static void change() {
    says(4, "TRUTH (what 1), PRETTY (2), PLACE (3), SETTLED (4: 0, 1) of a SCENE becomes v: what it was.");
    int[] most = {0, 99, 9, 5, 1};
    for (int what = 1; what <= 4; what++) {
      int w = what;
      PlayedTruth p = full();
      int was = p.sceneOf(5, what);
      due("change(5, " + what + ", " + most[what] + ")", p.change(5, what, most[what]), was);
      due("is so", p.sceneOf(5, what), most[what]);
      due("change(5, " + what + ", 0)", p.change(5, what, 0), most[what]);
      due("is so", p.sceneOf(5, what), 0);
      due("to the same", p.change(5, what, 0), 0);
      due("scene 0 stays, alone of its number", p.state(4), what == 4 ? 8 : 40);
      int[] none = {-1, most[what] + 1, LEAST, MOST};
      for (int v : none) {
        refused("change(0, " + w + ", " + v + ")", BAD, Bounds::usual, q -> q.change(0, w, v));
        refused("change(5, " + w + ", " + v + ")", BAD, Bounds::full, q -> q.change(5, w, v));
      }
      int[] nobody = {-1, 6, LEAST, MOST};
      for (int k : nobody) refusedEverywhere("change(" + k + ", " + w + ", 0)", BAD, q -> q.change(k, w, 0));
      refused("change(5, " + w + ", 0) of five", BAD, Bounds::usual, q -> q.change(5, w, 0));
      refused("change(0, " + w + ", 0) of none", BAD, PlayedTruth::new, q -> q.change(0, w, 0));
    }
    int[] none = {-1, 0, 5, 6, LEAST, MOST};
    for (int what : none) refused("change(0, " + what + ", 1)", BAD, Bounds::usual, q -> q.change(0, what, 1));
    changeAlone();
  }

  private static void changeAlone() {
    PlayedTruth p = new PlayedTruth();
    for (int k = 0; k < 6; k++) p.scene(1, 0, 0, 0);
    for (int k = 0; k < 6; k++) {
      due("settled: it alone", p.change(k, 4, 1), 0);
      due("settled: it alone", p.state(4), 1 << k);
      due("no more", p.change(k, 4, 0), 1);
      due("no more", p.state(4), 0);
    }
    due("60 alone settles none", p.change(0, 1, 60), 0);
    due("60 alone settles none", p.sceneOf(0, 4), 0);
    p.change(0, 4, 1);
    due("59 alone unsettles none", p.change(0, 1, 59), 60);
    due("59 alone unsettles none", p.sceneOf(0, 4), 1);
  }

  private static void remake() {
    says(5, "A SCENE becomes one of another KIND (1 to 5): the KIND that it was.");
    PlayedTruth p = full();
    due("remake(5, 5)", p.remake(5, 5), 1);
    due("is so", p.sceneOf(5, 0), 5);
    due("remake(5, 1)", p.remake(5, 1), 5);
    due("is so", p.sceneOf(5, 0), 1);
    due("the rest of it stays", p.sceneOf(5, 1), 45);
    due("the rest of it stays", p.sceneOf(5, 4), 1);
    int[] none = {-1, 0, 6, LEAST, MOST};
    for (int kind : none) {
      refused("remake(0, " + kind + ")", BAD, Bounds::usual, q -> q.remake(0, kind));
      refused("remake(5, " + kind + ")", BAD, Bounds::full, q -> q.remake(5, kind));
    }
    int[] nobody = {-1, 6, LEAST, MOST};
    for (int k : nobody) refusedEverywhere("remake(" + k + ", 2)", BAD, q -> q.remake(k, 2));
    refused("remake(5, 2) of five", BAD, Bounds::usual, q -> q.remake(5, 2));
    refused("remake(0, 2) of none", BAD, PlayedTruth::new, q -> q.remake(0, 2));
  }

  private static void house() {
    says(6, "The HOUSE of a NIGHT (0 to 15) becomes v (0 to 15): what it was.");
    PlayedTruth p = new PlayedTruth();
    for (int night = 0; night <= 15; night += 15) {
      due("house(" + night + ", 15)", p.house(night, 15), 9);
      due("house(" + night + ", 0)", p.house(night, 0), 15);
      due("house(" + night + ", 4)", p.house(night, 4), 0);
    }
    due("night 1 stays", p.house(1, 9), 9);
    due("night 14 stays", p.house(14, 9), 9);
    int[] none = {-1, 16, LEAST, MOST};
    for (int v : none) {
      refusedEverywhere("house(" + v + ", 0)", BAD, q -> q.house(v, 0));
      refusedEverywhere("house(0, " + v + ")", BAD, q -> q.house(0, v));
      refusedEverywhere("house(15, " + v + ")", BAD, q -> q.house(15, v));
    }
    due("of a night that is gone", over().house(1, 0), 14);
  }

  private static void place() {
    says(7, "LIGHT of a PLACE (what 0), NOISE (1) becomes v: what it was.");
    PlayedTruth p = new PlayedTruth();
    for (int f = 0; f <= 5; f += 5) {
      for (int what = 0; what <= 1; what++) {
        due("place(" + f + ", " + what + ", 9)", p.place(f, what, 9), 0);
        due("the other one stays", p.placeOf(f, 1 - what), 0);
        due("place(" + f + ", " + what + ", 0)", p.place(f, what, 0), 9);
      }
    }
    int[] noPlace = {-1, 6, LEAST, MOST};
    int[] noWhat = {-1, 2, LEAST, MOST};
    int[] noValue = {-1, 10, LEAST, MOST};
    for (int f : noPlace) refusedEverywhere("place(" + f + ", 0, 1)", BAD, q -> q.place(f, 0, 1));
    for (int what : noWhat) refusedEverywhere("place(0, " + what + ", 1)", BAD, q -> q.place(0, what, 1));
    for (int v : noValue) {
      refusedEverywhere("place(5, 0, " + v + ")", BAD, q -> q.place(5, 0, v));
      refusedEverywhere("place(5, 1, " + v + ")", BAD, q -> q.place(5, 1, v));
    }
  }

  private static void placeOf() {
    says(8, "Of a PLACE: what = 0 LIGHT, 1 NOISE.");
    PlayedTruth p = new PlayedTruth();
    p.place(0, 0, 1);
    p.place(0, 1, 2);
    p.place(5, 0, 3);
    p.place(5, 1, 4);
    due("placeOf(0, 0)", p.placeOf(0, 0), 1);
    due("placeOf(0, 1)", p.placeOf(0, 1), 2);
    due("placeOf(5, 0)", p.placeOf(5, 0), 3);
    due("placeOf(5, 1)", p.placeOf(5, 1), 4);
    int[] noPlace = {-1, 6, LEAST, MOST};
    int[] noWhat = {-1, 2, LEAST, MOST};
    for (int f : noPlace) refusedEverywhere("placeOf(" + f + ", 1)", BAD, q -> q.placeOf(f, 1));
    for (int what : noWhat) refusedEverywhere("placeOf(5, " + what + ")", BAD, q -> q.placeOf(5, what));
  }

  private static PlayedTruth atNight(int night) {
    PlayedTruth p = new PlayedTruth();
    p.ends(16);
    p.scene(1, 59, 0, 0);
    for (int i = 0; i < night; i++) p.night();
    return p;
  }

  private static void ends() {
    says(9, "END becomes v: what it was.");
    PlayedTruth p = new PlayedTruth();
    due("ends(16)", p.ends(16), 12);
    due("ends(1)", p.ends(1), 16);
    due("ends(1) again", p.ends(1), 1);
    due("state(1)", p.state(1), 1);
    says(9, "END is 1 to 16 (12 at first)");
    int[] none = {-1, 0, 17, LEAST, MOST};
    for (int v : none) refusedEverywhere("ends(" + v + ")", BAD, q -> q.ends(v));
    says(9, "STATE: v is below NIGHT.");
    refused("ends(1) at night 2", STATE, Bounds::usual, q -> q.ends(1));
    refused("ends(1) at night 2, over", STATE, Bounds::over, q -> q.ends(1));
    refused("ends(15) at night 16", STATE, () -> atNight(16), q -> q.ends(15));
    due("ends(2) at night 2", usual().ends(2), 9);
    due("ends(16) at night 16", atNight(16).ends(16), 16);
    due("ends(1) at night 1", atNight(1).ends(1), 16);
    says(9, "of several the first named: BAD (-1)");
    refused("ends(0) at night 2", BAD, Bounds::usual, q -> q.ends(0));
    refused("ends(-1) at night 16", BAD, () -> atNight(16), q -> q.ends(-1));
    says(9, "from END on it is OVER");
    PlayedTruth q = atNight(5);
    q.ends(6);
    due("a night ahead of it", q.state(3), 0);
    q.ends(5);
    due("at it", q.state(3), 1);
    q.ends(6);
    due("no more", q.state(3), 0);
  }

  private static void anew() {
    says(10, "NIGHT is 0 again, SCORE 0, none is SETTLED (TRUTH, PRETTY stay): what NIGHT was.");
    due("at night 0", new PlayedTruth().anew(), 0);
    PlayedTruth p = atNight(16);
    due("it is over", p.state(3), 1);
    due("it is settled", p.state(4), 1);
    int truth = p.sceneOf(0, 1);
    due("at night 16", p.anew(), 16);
    due("night", p.state(0), 0);
    due("end stays", p.state(1), 16);
    due("score", p.state(2), 0);
    due("not over", p.state(3), 0);
    due("none is settled", p.state(4), 0);
    due("truth stays", p.sceneOf(0, 1), truth);
    PlayedTruth six = new PlayedTruth();
    for (int k = 0; k < 6; k++) {
      six.scene(1, 10 + k, k, 0);
      six.change(k, 4, 1);
    }
    due("with all settled", six.anew(), 0);
    due("none of six is", six.state(4), 0);
    due("pretty stays", six.sceneOf(5, 2), 5);
  }

  private static void state() {
    says(11, "What = 0 NIGHT, 1 END, 2 SCORE, 3 1 if it is OVER, else 0, 4 SCENES that are SETTLED, as a set");
    int[] none = {-1, 7, LEAST, MOST};
    for (int what : none) refusedEverywhere("state(" + what + ")", BAD, p -> p.state(what));
    PlayedTruth p = new PlayedTruth();
    int[] first = {0, 12, 0, 0, 0, 9, 0};
    for (int what = 0; what <= 6; what++) due("new: state(" + what + ")", p.state(what), first[what]);
    for (int k = 0; k < 6; k++) p.scene(1, 99, 0, 0);
    due("truth of all, most", p.state(6), 594);
    for (int k = 0; k < 6; k++) p.change(k, 4, 1);
    due("all are settled", p.state(4), 63);
    says(11, "5 the HOUSE of NIGHT");
    PlayedTruth q = atNight(15);
    q.house(15, 15);
    due("night 15", q.state(5), 15);
    q.night();
    due("night 16", q.state(5), 0);
    says(11, "3 1 if it is OVER, else 0");
    PlayedTruth one = new PlayedTruth();
    one.ends(1);
    due("night 0 of 1", one.state(3), 0);
    one.night();
    due("night 1 of 1", one.state(3), 1);
    PlayedTruth most = atNight(15);
    due("night 15 of 16", most.state(3), 0);
    most.night();
    due("night 16 of 16", most.state(3), 1);
  }
}
