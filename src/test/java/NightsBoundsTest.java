/** The boundary cases of promises 14 to 22: nights, when it is true, props, strands, billings. */
public final class NightsBoundsTest extends Bounds {
  public static void main(String[] args) {
    nightIsOver();
    nightNobody();
    nightWhoIsTold();
    nightMends();
    nightSettles();
    nightTrims();
    nightFades();
    nightOfSettled();
    nightWorth();
    on();
    when();
    prettyFor();
    placeFor();
    truth();
    props();
    strandsClose();
    strandsOfSix();
    billing();
    billingEnds();
    askedChangesNothing();
    end("NightsBoundsTest", promises(14, 22));
  }

  /** Scenes of these kinds and truths, in the places 0, 2, 4, 0, 2, 4: none next to another's; pretty 0, in house 9. */
  private static PlayedTruth some(int... kindsAndTruths) {
    PlayedTruth p = new PlayedTruth();
    for (int i = 0; i < kindsAndTruths.length; i += 2) p.scene(kindsAndTruths[i], kindsAndTruths[i + 1], 0, i % 6);
    return p;
  }

  /** Told by its number and 1, in one night; 0 tells none. */
  private static int tellOne(PlayedTruth p, int act) {
    p.sheet(3, 0, 1);
    p.write(3, 0, act);
    return p.goAll(3, 0, 1);
  }

  // ---- nights

  private static void nightIsOver() {
    says(14, "STATE: it is OVER.");
    refused("night, over", STATE, Bounds::over, PlayedTruth::night);
    for (int end = 1; end <= 16; end++) {
      PlayedTruth p = new PlayedTruth();
      p.ends(end);
      for (int i = 0; i < end; i++) due("night " + i + " of " + end, p.night(), 0);
      due("night " + end + " of " + end, p.night(), STATE);
      due("state(0)", p.state(0), end);
    }
    PlayedTruth p = over();
    p.ends(3);
    due("one more", p.night() > 0 ? 1 : 0, 1);
    due("and over again", p.night(), STATE);
    p.anew();
    due("anew", p.night() > 0 ? 1 : 0, 1);
  }

  private static void nightNobody() {
    says(14, "(none, if there is none)");
    due("no scenes", new PlayedTruth().night(), 0);
    PlayedTruth p = some(1, 50);
    p.change(0, 4, 1);
    due("all are settled", p.night(), 9);
    p.change(0, 4, 0);
    p.house(1, 0);
    p.change(0, 1, 9);
    due("it learns 0", p.night(), 9);
    due("so it was not told", p.sceneOf(0, 1), 8);
    Check.tell(p, "trial trim;");
    due("its will is to trim", p.night(), 9);
    due("so it was not told", p.sceneOf(0, 2), 0);
  }

  private static void nightWhoIsTold() {
    says(14, "in each the least SCENE being told that MAY be mended");
    PlayedTruth p = some(5, 10, 1, 10, 1, 10);
    p.night();
    due("the least of three", p.state(6), 23 + 9 + 9);
    p.night();
    due("the match learns 0 in an odd night: the second", p.sceneOf(1, 1), 24);
    p.change(1, 4, 1);
    p.change(0, 4, 1);
    p.night();
    due("two are settled: the last", p.sceneOf(2, 1), 8 + 16 - 1);
    // A trial of 9 without a rail learns 0, one of 10 learns 1.
    PlayedTruth q = some(1, 9, 1, 10);
    q.house(0, 3);
    due("who learns 1 is told, who learns 0 isn't", q.night(), 1 + 9 + 9);
    due("its truth", q.sceneOf(1, 1), 10);
  }

  private static void nightMends() {
    says(14, "mend: TRUTH is what it LEARNS more (99 at most), WORTH what it LEARNS");
    int[] before = {82, 83, 84, 99};
    int[] behind = {98, 99, 99, 99};
    for (int i = 0; i < before.length; i++) {
      PlayedTruth p = some(4, before[i]);
      p.house(0, 12);
      p.place(0, 1, 3);
      // 19 less 3 of noise; it draws nothing: half of 10 less 10, or less 11.
      due("worth from " + before[i], p.night(), 16);
      due("truth", p.sceneOf(0, 1), behind[i]);
    }
  }

  private static void nightSettles() {
    says(14, "it is SETTLED, if TRUTH is 60 or more then.");
    int[] before = {44, 45, 46, 47, 59, 60, 99};
    int[] settled = {0, 0, 1, 1, 1, 1, 1};
    int[] behind = {57, 58, 60, 61, 73, 74, 99};
    for (int i = 0; i < before.length; i++) {
      PlayedTruth p = some(4, before[i]);
      p.night();
      due("a crowd of " + before[i], p.sceneOf(0, 4), settled[i]);
      due("its truth: it fades if it isn't settled", p.sceneOf(0, 1), behind[i]);
    }
    PlayedTruth p = some(1, 61, 1, 0);
    p.change(1, 3, 0);
    Check.tell(p, "trial if number = 0 keep;");
    tellOne(p, 1);
    due("kept at 61: not settled", p.state(4), 0);
    due("kept at 61: it fades", p.sceneOf(0, 1), 60);
    tellOne(p, 0);
    due("none told at 60: not settled", p.state(4), 0);
    Check.tell(p, "trial trim;");
    p.change(0, 1, 80);
    tellOne(p, 1);
    due("trimmed to 70: not settled", p.state(4), 0);
    p.rules();
    p.house(3, 0);
    p.remake(0, 3);
    p.change(0, 1, 60);
    due("a sunset that learns 0", p.sceneOf(0, 5), 0);
    tellOne(p, 1);
    due("told at 60 it is settled, though it learns 0", p.state(4), 1);
    p.change(0, 4, 0);
    p.change(0, 1, 59);
    p.house(4, 0);
    tellOne(p, 1);
    due("told at 59 it isn't", p.state(4), 0);
  }

  private static void nightTrims() {
    says(14, "trim: PRETTY is 1 more (9 at most), TRUTH 10 less (0 at least), WORTH twice the CRITICS.");
    int[] pretty = {0, 7, 8, 9};
    int[] more = {1, 8, 9, 9};
    for (int i = 0; i < pretty.length; i++) {
      PlayedTruth p = some(1, 50);
      p.change(0, 2, pretty[i]);
      Check.tell(p, "scene trim;");
      tellOne(p, 1);
      due("pretty of " + pretty[i], p.sceneOf(0, 2), more[i]);
    }
    int[] truth = {0, 9, 10, 11, 12, 99};
    int[] less = {0, 0, 0, 0, 1, 88};
    for (int i = 0; i < truth.length; i++) {
      PlayedTruth p = some(1, truth[i]);
      Check.tell(p, "scene trim;");
      tellOne(p, 1);
      due("truth of " + truth[i] + ", that fades then", p.sceneOf(0, 1), less[i]);
    }
    for (int house = 0; house <= 15; house++) {
      PlayedTruth p = some(1, 50);
      p.house(0, house);
      Check.tell(p, "scene trim;");
      due("worth in house " + house, tellOne(p, 1), 2 * (house % 4) + 9);
    }
    PlayedTruth p = some(2, 12);
    p.change(0, 2, 9);
    Check.tell(p, "scene trim;");
    due("what it draws then is by its pretty and truth then", tellOne(p, 1), 2 + 19 - 0 + 9);
  }

  private static void nightFades() {
    says(14, "TRUTH of each that isn't SETTLED is 1 less (0 at least).");
    PlayedTruth p = some(1, 0, 1, 1, 1, 2, 1, 99, 1, 60, 1, 0);
    p.change(4, 4, 1);
    p.change(5, 4, 1);
    tellOne(p, 0);
    int[] want = {0, 0, 1, 98, 60, 0};
    for (int k = 0; k < 6; k++) due("truth of " + k, p.sceneOf(k, 1), want[k]);
    says(14, "NIGHT is 1 more.");
    due("state(0)", p.state(0), 1);
  }

  private static void nightOfSettled() {
    says(14, "If a SCENE is told, and is not SETTLED, it does as its WILL is");
    PlayedTruth p = some(1, 60);
    p.change(0, 4, 1);
    due("settled: it isn't mended", tellOne(p, 1), 9);
    due("its truth", p.sceneOf(0, 1), 60);
    Check.tell(p, "scene trim;");
    due("settled: it isn't trimmed", tellOne(p, 1), 9);
    due("its truth", p.sceneOf(0, 1), 60);
    due("its pretty", p.sceneOf(0, 2), 0);
  }

  private static void nightWorth() {
    says(14, "What all DRAW then is WORTH so much more.");
    PlayedTruth p = some(4, 31);
    // Of 45 behind it is mended: (10 - 5) / 2, where it were (10 - 3) / 2 ahead.
    due("by truth behind it is mended, ahead of its fading", p.night(), 14 + 2);
    due("score", p.state(2), 16);
    p.place(0, 0, 9);
    p.change(0, 4, 1);
    due("in light", p.night(), 3 + 9);
    due("score", p.state(2), 28);
    says(14, "A NIGHT goes by as in THE REST: what it was WORTH.");
    PlayedTruth q = usual();
    int on = q.on(1);
    due("as on(1)", q.night(), on);
  }

  // ---- the rest

  private static void on() {
    says(15, "What n (0 to 16) NIGHTS of THE REST (fewer, if it is OVER) are WORTH.");
    int[] none = {-1, 17, LEAST, MOST};
    for (int n : none) refusedEverywhere("on(" + n + ")", BAD, p -> p.on(n));
    PlayedTruth p = some(1, 0);
    p.change(0, 4, 1);
    due("on(0)", p.on(0), 0);
    due("on(1)", p.on(1), 9);
    due("on(11) of 12", p.on(11), 99);
    due("on(12) of 12", p.on(12), 108);
    due("on(13) of 12", p.on(13), 108);
    due("on(16) of 12", p.on(16), 108);
    p.ends(16);
    due("on(15) of 16", p.on(15), 135);
    due("on(16) of 16", p.on(16), 144);
    p.night();
    due("on(16) of the last 15", p.on(16), 135);
    due("it counts what comes alone", p.state(2), 9);
    p.ends(2);
    due("on(16) of the last one", p.on(16), 9);
    p.night();
    due("on(0), over", p.on(0), 0);
    due("on(16), over", p.on(16), 0);
    due("on(16) without scenes", new PlayedTruth().on(16), 0);
  }

  private static void when() {
    says(16, "The first NIGHT of THE REST behind which a SCENE is SETTLED.");
    int[] nobody = {-1, 6, LEAST, MOST};
    for (int k : nobody) refusedEverywhere("when(" + k + ")", BAD, p -> p.when(k));
    refused("when(5) of five", BAD, Bounds::usual, p -> p.when(5));
    refused("when(0) of none", BAD, PlayedTruth::new, p -> p.when(0));
    // It learns 16, and a tenth of its truth; 44: 64. 43: 63. 39: 58, 57; then 78.
    due("in night 0", some(1, 44).when(0), 0);
    due("in night 0", some(1, 41).when(0), 0);
    due("in night 1", some(1, 39).when(0), 1);
    PlayedTruth p = some(1, 39);
    p.ends(2);
    due("in the last night", p.when(0), 1);
    p.ends(1);
    says(16, "NONE (also if it is now).");
    refused("not in time", NONE, () -> {
      PlayedTruth q = some(1, 39);
      q.ends(1);
      return q;
    }, q -> q.when(0));
    refused("now", NONE, Bounds::usual, q -> q.when(0));
    refused("over, not settled", NONE, Bounds::over, q -> q.when(1));
    refused("over, settled", NONE, Bounds::over, q -> q.when(0));
    p.ends(2);
    p.night();
    due("the number of the night, not how many", p.when(0), 1);
    due("the last of six", when5(), 15);
  }

  /** Of six scenes the last is the one that is told, and in the very last night it is settled. */
  private static int when5() {
    PlayedTruth p = some(1, 60, 1, 60, 1, 60, 1, 60, 1, 60, 4, 45);
    p.ends(16);
    p.change(5, 3, 0);
    for (int k = 0; k < 5; k++) p.change(k, 4, 1);
    for (int i = 0; i < 15; i++) p.house(i, 0);
    for (int i = 0; i < 15; i++) tellOne(p, 0);
    p.change(5, 1, 46);
    return p.when(5);
  }

  private static void prettyFor() {
    says(17, "PRETTY with which a SCENE makes THE REST WORTH most; of several the least.");
    int[] nobody = {-1, 6, LEAST, MOST};
    for (int k : nobody) refusedEverywhere("prettyFor(" + k + ")", BAD, p -> p.prettyFor(k));
    refused("prettyFor(5) of five", BAD, Bounds::usual, p -> p.prettyFor(5));
    refused("prettyFor(0) of none", BAD, PlayedTruth::new, p -> p.prettyFor(0));
    due("the most", some(2, 0).prettyFor(0), 9);
    due("all as good: the least", some(1, 0).prettyFor(0), 0);
    due("over: the least", over().prettyFor(1), 0);
    due("the last of six", full().prettyFor(2), 9);
    PlayedTruth p = some(4, 0);
    p.ends(1);
    p.change(0, 4, 1);
    due("halves: 8 is as good as 9", p.prettyFor(0), 8);
    p.change(0, 1, 9);
    due("halves of one less: 9 alone", p.prettyFor(0), 9);
    Check.tell(p, "crowd if pretty > 0 keep;");
    p.change(0, 4, 0);
    p.change(0, 1, 0);
    due("0 is best: it is mended then", p.prettyFor(0), 0);
    due("its pretty stays", p.sceneOf(0, 2), 0);
  }

  private static void placeFor() {
    says(18, "PLACE likewise.");
    int[] nobody = {-1, 6, LEAST, MOST};
    for (int k : nobody) refusedEverywhere("placeFor(" + k + ")", BAD, p -> p.placeFor(k));
    refused("placeFor(5) of five", BAD, Bounds::usual, p -> p.placeFor(5));
    refused("placeFor(0) of none", BAD, PlayedTruth::new, p -> p.placeFor(0));
    PlayedTruth p = some(1, 0, 1, 0);
    due("all as good: the least", p.placeFor(1), 0);
    p.place(5, 0, 1);
    due("the last place", p.placeFor(1), 5);
    due("its place stays", p.sceneOf(1, 3), 2);
    p.place(0, 0, 1);
    due("of two the least", p.placeFor(1), 0);
    p.place(4, 0, 2);
    due("the last but one", p.placeFor(1), 4);
    due("over: the least", over().placeFor(1), 0);
    PlayedTruth six = full();
    six.place(5, 0, 9);
    due("the last of six", six.placeFor(5), 5);
    PlayedTruth poor = some(2, 99);
    poor.change(0, 4, 1);
    poor.ends(1);
    due("worth 0 in all of them", poor.placeFor(0), 0);
    poor.place(3, 0, 1);
    due("worth 1 in one of them", poor.placeFor(0), 3);
  }

  private static void truth() {
    says(19, "TRUE of v (0 to 594): NIGHT itself, if it is so now.");
    int[] none = {-1, 595, LEAST, MOST};
    for (int v : none) refusedEverywhere("truth(" + v + ")", BAD, p -> p.truth(v));
    PlayedTruth most = some(1, 99, 1, 99, 1, 99, 1, 99, 1, 99, 1, 99);
    due("truth(594)", most.truth(594), 0);
    most.change(5, 1, 98);
    due("truth(593)", most.truth(593), 0);
    // Night by night one more is 99 and settled.
    due("truth(594) of 593", most.truth(594), 6);
    most.ends(6);
    due("truth(594) in the end", most.truth(594), 6);
    most.ends(5);
    due("truth(594) not in time", most.truth(594), NONE);
    due("truth(0) of none", new PlayedTruth().truth(0), 0);
    refused("truth(1) of none", NONE, PlayedTruth::new, p -> p.truth(1));
    PlayedTruth p = some(1, 10);
    p.ends(2);
    // 10 and 17 less 1; 26 and 18 less 1.
    due("10 now", p.truth(10), 0);
    due("11 then", p.truth(11), 1);
    due("26 then", p.truth(26), 1);
    due("27 in the end", p.truth(27), 2);
    due("43 in the end", p.truth(43), 2);
    due("44 never", p.truth(44), NONE);
    p.night();
    due("26 now", p.truth(26), 1);
    due("27 in the end", p.truth(27), 2);
    p.night();
    due("43, over", p.truth(43), 2);
    due("0, over", p.truth(0), 2);
    due("44, over", p.truth(44), NONE);
    says(19, "the first NIGHT, from NIGHT on, as which it is when TRUTH of all together is v or more, in THE REST.");
    PlayedTruth once = some(1, 30);
    once.house(0, 0);
    Check.tell(once, "scene if night > 1 keep;");
    // It learns 3, a tenth, in night 0, 19 in night 1, and fades by 1 in each, from then on alone.
    due("30 now", once.truth(30), 0);
    due("31 then", once.truth(31), 1);
    due("32 then", once.truth(32), 1);
    due("33 later", once.truth(33), 2);
    due("50 later", once.truth(50), 2);
    due("51 never", once.truth(51), NONE);
  }

  // ---- props, strands, billings

  private static void props() {
    says(20, "and all SCENES of the PLACE of 1 less, of 2 less, and so on, as long as there is any in each.");
    int[] nobody = {-1, 6, LEAST, MOST};
    for (int k : nobody) refusedEverywhere("props(" + k + ")", BAD, p -> p.props(k));
    refused("props(5) of five", BAD, Bounds::usual, p -> p.props(5));
    refused("props(0) of none", BAD, PlayedTruth::new, p -> p.props(0));
    PlayedTruth p = new PlayedTruth();
    for (int f = 0; f < 6; f++) p.scene(1, 0, 0, f);
    for (int k = 0; k < 6; k++) due("in a row, " + k, p.props(k), (2 << k) - 1);
    p.change(0, 3, 1);
    due("none in place 0", p.props(5), 63);
    p.change(1, 3, 0);
    p.change(0, 3, 0);
    due("none in place 1: so none of place 0", p.props(5), 60);
    due("place 2 alone", p.props(2), 4);
    p.change(4, 3, 5);
    due("none in place 4: itself alone, not those of its own place", p.props(5), 32);
    for (int k = 0; k < 6; k++) p.change(k, 3, 0);
    due("place 0: itself alone", p.props(3), 8);
    for (int k = 0; k < 5; k++) p.change(k, 3, 4);
    p.change(5, 3, 5);
    due("all of one place", p.props(5), 63);
    due("those not of the place of 1 more", p.props(0), 1);
    says(20, "PROPS of a SCENE, as a set (SETTLED or not).");
    for (int k = 0; k < 6; k++) p.change(k, 4, 1);
    due("all are settled", p.props(5), 63);
  }

  private static void strandsClose() {
    says(21, "of the same PLACE, or whose TRUTH is 3 or less apart");
    int[] apart = {0, 1, 2, 3, 4, 5, 99};
    for (int d : apart) {
      PlayedTruth p = some(1, 0, 1, d);
      due(d + " apart", p.strands(0), d <= 3 ? 3 : 1);
      due(d + " apart, from above", p.strands(1), d <= 3 ? 3 : 2);
      due(d + " apart, how many", p.strands(-1), d <= 3 ? 1 : 2);
      p.change(1, 3, 0);
      due(d + " apart, of the same place", p.strands(1), 3);
      p.change(1, 3, 1);
      due(d + " apart, places next to each other", p.strands(1), d <= 3 ? 3 : 2);
    }
    says(21, "two SCENES that aren't SETTLED");
    PlayedTruth p = some(1, 0, 1, 3, 1, 6);
    due("one by the other", p.strands(0), 7);
    p.change(1, 4, 1);
    due("not by one that is settled", p.strands(0), 1);
    due("how many", p.strands(-1), 2);
    says(21, "(0: it is SETTLED)");
    due("settled", p.strands(1), 0);
    for (int k = 0; k < 3; k++) p.change(k, 4, 1);
    due("all settled: none", p.strands(-1), 0);
    due("all settled", p.strands(2), 0);
  }

  private static void strandsOfSix() {
    says(21, "what -1 how many, 0 .. 5 SCENES of that SCENE's STRAND, as a set");
    int[] none = {-2, 6, LEAST, MOST};
    for (int what : none) refusedEverywhere("strands(" + what + ")", BAD, p -> p.strands(what));
    due("none", new PlayedTruth().strands(-1), 0);
    // By each only the next one, and in another order than their numbers.
    PlayedTruth row = some(1, 0, 1, 15, 1, 3, 1, 12, 1, 6, 1, 9);
    for (int k = 0; k < 6; k++) row.change(k, 3, k);
    due("six in a row", row.strands(-1), 1);
    due("six in a row", row.strands(0), 63);
    due("six in a row", row.strands(1), 63);
    row.change(5, 1, 50);
    due("the row is parted", row.strands(0), 1 | 4 | 16);
    due("the row is parted", row.strands(1), 2 | 8);
    due("the row is parted", row.strands(5), 32);
    due("how many", row.strands(-1), 3);
    PlayedTruth alone = new PlayedTruth();
    for (int k = 0; k < 6; k++) alone.scene(1, 4 * k, 0, k);
    due("six alone", alone.strands(-1), 6);
    for (int k = 0; k < 6; k++) due("alone " + k, alone.strands(k), 1 << k);
    says(21, "BAD: also no such SCENE.");
    refused("strands(5) of five", BAD, Bounds::usual, p -> p.strands(5));
    refused("strands(0) of none", BAD, PlayedTruth::new, p -> p.strands(0));
  }

  private static void billing() {
    says(22, "the fewest SCENES that DRAW v or more together now; of several the least, as a set.");
    PlayedTruth p = some(1, 0, 1, 0, 1, 0, 1, 0, 1, 0, 1, 0);
    for (int v = 0; v <= 54; v++) due("billing(" + v + ")", p.billing(v), (1 << (v + 8) / 9) - 1);
    p.change(5, 3, 1);
    p.place(1, 0, 1);
    due("the last alone", p.billing(10), 32);
    due("the first and the last", p.billing(19), 33);
    due("one of 9", p.billing(9), 1);
    p.change(4, 3, 1);
    due("of two that draw 10 the least", p.billing(10), 16);
    due("both of them", p.billing(20), 48);
    due("fewer, though more as a set", p.billing(19), 17);
  }

  private static void billingEnds() {
    says(22, "BILLING of v (0 to 999).");
    int[] none = {-1, 1000, LEAST, MOST};
    for (int v : none) refusedEverywhere("billing(" + v + ")", BAD, p -> p.billing(v));
    due("billing(0) of none", new PlayedTruth().billing(0), 0);
    due("billing(0) of five", usual().billing(0), 0);
    says(22, "NONE: all draw less.");
    refused("billing(1) of none", NONE, PlayedTruth::new, p -> p.billing(1));
    refused("billing(999)", NONE, Bounds::full, p -> p.billing(999));
    PlayedTruth p = new PlayedTruth();
    for (int k = 0; k < 6; k++) p.scene(3, 0, 9, 0);
    p.place(0, 0, 9);
    due("as much as can be", p.billing(6 * 65), 63);
    due("1 more", p.billing(6 * 65 + 1), NONE);
  }

  private static void askedChangesNothing() {
    says(15, "What is asked changes nothing, if not told.");
    refused("on", usual().on(16), Bounds::usual, p -> p.on(16));
    refused("when", usual().when(1), Bounds::usual, p -> p.when(1));
    refused("prettyFor", usual().prettyFor(1), Bounds::usual, p -> p.prettyFor(1));
    refused("placeFor", usual().placeFor(1), Bounds::usual, p -> p.placeFor(1));
    refused("truth", usual().truth(250), Bounds::usual, p -> p.truth(250));
    refused("props", usual().props(1), Bounds::usual, p -> p.props(1));
    refused("strands", usual().strands(-1), Bounds::usual, p -> p.strands(-1));
    refused("billing", usual().billing(40), Bounds::usual, p -> p.billing(40));
  }
}
