/** The boundary cases of promises 30 to 36: reports, lone scenes, the liar, nights by lot. */
public final class StrangersBoundsTest extends Bounds {
  public static void main(String[] args) {
    reportRanges();
    reportMostBelowLeast();
    reportSix();
    forget();
    loneWhat();
    loneTruthAtFirst();
    loneFromLeastToMost();
    loneDrawn();
    loneNights();
    loneMended();
    loneTouchedByNothing();
    liar();
    seed();
    lotIsOver();
    lotWraps();
    timesRanges();
    timesWorth();
    timesSeed();
    askedChangesNothing();
    end("StrangersBoundsTest", promises(30, 36));
  }

  /** How many lone scenes fit these reports (four numbers each), by houses that are all the same. */
  private static int fits(int house, int... reports) {
    PlayedTruth p = new PlayedTruth();
    for (int i = 0; i < 16; i++) p.house(i, house);
    for (int r = 0; r < reports.length; r += 4) {
      due("report", p.report(reports[r], reports[r + 1], reports[r + 2], reports[r + 3]), r / 4);
    }
    return p.lone(0);
  }

  // ---- reports

  private static void reportRanges() {
    says(30, "behind k NIGHTS (0 to 15; from NIGHT 0 on)");
    int[] noNights = {-1, 16, LEAST, MOST};
    for (int k : noNights) {
      refusedEverywhere("report(" + k + ", 0, 0, 99)", BAD, p -> p.report(k, 0, 0, 99));
      refusedEverywhere("report(" + k + ", 1, 0, 999)", BAD, p -> p.report(k, 1, 0, 999));
    }
    says(30, "TRUTH (asked 0; 0 to 99), or what it has DRAWN together (1; 0 to 999) was from LEAST to MOST.");
    int[] noAsked = {-1, 2, LEAST, MOST};
    for (int asked : noAsked) refusedEverywhere("report(1, " + asked + ", 0, 1)", BAD, p -> p.report(1, asked, 0, 1));
    int[] tops = {99, 999};
    for (int asked = 0; asked <= 1; asked++) {
      int which = asked;
      int[] none = {-1, tops[asked] + 1, LEAST, MOST};
      for (int v : none) {
        refusedEverywhere("report(1, " + asked + ", " + v + ", 50)", BAD, p -> p.report(1, which, v, 50));
        refusedEverywhere("report(1, " + asked + ", 0, " + v + ")", BAD, p -> p.report(1, which, 0, v));
        refusedEverywhere("report(1, " + asked + ", " + v + ", " + v + ")", BAD, p -> p.report(1, which, v, v));
      }
      PlayedTruth p = new PlayedTruth();
      due("the least of all", p.report(0, asked, 0, 0), 0);
      due("the most of all", p.report(15, asked, tops[asked], tops[asked]), 1);
      due("the widest", p.report(15, asked, 0, tops[asked]), 2);
    }
  }

  private static void reportMostBelowLeast() {
    says(30, "BAD: also MOST below LEAST; FULL.");
    int[][] ends = {{1, 0}, {50, 49}, {99, 98}, {99, 0}};
    for (int[] e : ends) {
      for (int asked = 0; asked <= 1; asked++) {
        int which = asked;
        refusedEverywhere("report(1, " + asked + ", " + e[0] + ", " + e[1] + ")", BAD, p -> p.report(1, which, e[0], e[1]));
        PlayedTruth p = new PlayedTruth();
        due("as much as least", p.report(1, asked, e[0], e[0]), 0);
        due("1 more than least", p.report(1, asked, e[1], e[1] + 1), 1);
      }
    }
    refusedEverywhere("report(1, 1, 999, 998)", BAD, p -> p.report(1, 1, 999, 998));
  }

  private static void reportSix() {
    says(30, "A REPORT (6 at most)");
    PlayedTruth p = new PlayedTruth();
    for (int r = 0; r < 6; r++) {
      due("a refused one takes no number", p.report(16, 0, 0, 0), BAD);
      due("report", p.report(r, 0, 0, 99), r);
      due("many(3)", p.many(3), r + 1);
    }
    due("the seventh", p.report(0, 0, 0, 99), FULL);
    due("many(3)", p.many(3), 6);
    refused("the seventh", FULL, Bounds::full, q -> q.report(0, 0, 55, 99));
    says(30, "of several the first named: BAD (-1)");
    refused("the seventh behind 16", BAD, Bounds::full, q -> q.report(16, 0, 0, 99));
    refused("the seventh, asked 2", BAD, Bounds::full, q -> q.report(0, 2, 0, 99));
    refused("the seventh, most below least", BAD, Bounds::full, q -> q.report(0, 0, 9, 8));
    refused("the seventh, most above 99", BAD, Bounds::full, q -> q.report(0, 0, 9, 100));
  }

  private static void forget() {
    says(31, "There are no REPORTS: how many there were.");
    due("none", new PlayedTruth().forget(), 0);
    PlayedTruth p = full();
    due("six", p.forget(), 6);
    due("none any more", p.forget(), 0);
    due("many(3)", p.many(3), 0);
    due("all fit", p.lone(0), 500);
    due("numbers start anew", p.report(0, 0, 55, 99), 0);
    due("it alone counts", p.lone(0), 0);
  }

  // ---- lone scenes

  private static void loneWhat() {
    says(32, "what = 0 how many");
    int[] none = {-1, 4, LEAST, MOST};
    for (int what : none) refusedEverywhere("lone(" + what + ")", BAD, p -> p.lone(what));
    due("no reports: all", new PlayedTruth().lone(0), 500);
    says(32, "NONE (of 1, 2, 3): there are none.");
    Setting nobody = () -> {
      PlayedTruth p = usual();
      p.report(0, 0, 55, 99);
      return p;
    };
    due("lone(0)", nobody.make().lone(0), 0);
    for (int what = 1; what <= 3; what++) {
      int w = what;
      refused("lone(" + what + ")", NONE, nobody, p -> p.lone(w));
    }
    refused("lone(4) of none", BAD, nobody, p -> p.lone(4));
    says(32, "of that with the least KIND, of these the least PRETTY, of these the least TRUTH: 1 KIND, 2 PRETTY, 3 TRUTH at first.");
    PlayedTruth p = new PlayedTruth();
    due("KIND of 500", p.lone(1), 1);
    due("PRETTY of 500", p.lone(2), 0);
    due("TRUTH of 500", p.lone(3), 0);
    // Only a sunset of pretty 9 draws 56, if it isn't true: truth 0 or 6.
    p.house(0, 0);
    p.report(1, 1, 56, 999);
    due("the most pretty", p.lone(0), 2);
    due("KIND", p.lone(1), 3);
    due("PRETTY", p.lone(2), 9);
    due("TRUTH", p.lone(3), 0);
    p.report(0, 0, 1, 99);
    due("the other one", p.lone(0), 1);
    due("TRUTH", p.lone(3), 6);
  }

  private static void loneTruthAtFirst() {
    says(32, "A LONE SCENE is a KIND (1 to 5; its number 0), PRETTY, and TRUTH at first (0, 6, .. 54)");
    for (int t = 0; t <= 99; t++) due("truth " + t + " at first", fits(9, 0, 0, t, t), t % 6 == 0 && t <= 54 ? 50 : 0);
    due("54 or more", fits(9, 0, 0, 54, 99), 50);
    due("55 or more", fits(9, 0, 0, 55, 99), 0);
    // Without a rail a trial, duet and sunset of 0 stay so, a crowd and a match are 4: pretty tells what each draws.
    due("a match's number is 0: crowds and matches draw 5 alike", fits(0, 0, 0, 0, 0, 1, 1, 0, 5), 4);
    due("kinds 1 to 3", fits(0, 0, 0, 0, 0, 1, 0, 0, 3), 30);
    due("kinds 4 and 5", fits(0, 0, 0, 0, 0, 1, 0, 4, 4), 20);
  }

  private static void loneFromLeastToMost() {
    says(32, "was from LEAST to MOST.");
    int[][] ends = {{6, 12, 100}, {7, 12, 50}, {6, 11, 50}, {7, 11, 0}, {5, 13, 100}, {0, 99, 500}, {0, 0, 50}, {1, 5, 0}};
    for (int[] e : ends) due("truth " + e[0] + " to " + e[1], fits(9, 0, 0, e[0], e[1]), e[2]);
    // Of truth 0 and without a rail: trials 9; duets 10, 12, .. 28; sunsets 20, 24, .. 56; the others twice 5, .. 9.
    int[][] drawn = {{0, 4, 0}, {0, 5, 4}, {5, 5, 4}, {6, 6, 4}, {9, 9, 14}, {10, 10, 1}, {11, 11, 0}, {27, 27, 0},
        {28, 28, 2}, {52, 55, 1}, {53, 55, 0}, {53, 56, 1}, {56, 999, 1}, {57, 999, 0}, {0, 999, 50}};
    for (int[] d : drawn) due("drawn " + d[0] + " to " + d[1], fits(0, 0, 0, 0, 0, 1, 1, d[0], d[1]), d[2]);
  }

  private static void loneDrawn() {
    says(32, "or what it has DRAWN together (1; 0 to 999)");
    due("behind 0 nights: nothing", fits(9, 0, 1, 0, 0), 500);
    due("behind 0 nights: nothing", fits(9, 0, 1, 1, 999), 0);
    due("trials, 9 a night", fits(9, 15, 1, 135, 135, 1, 1, 9, 9, 2, 1, 18, 18), 100);
    due("the most: 15 sunsets of pretty 9, no rail, 0", fits(0, 15, 1, 56 * 15, 999), 1 + 1);
    due("more than any", fits(0, 15, 1, 56 * 15 + 1, 999), 0);
  }

  private static void loneNights() {
    says(32, "behind k NIGHTS (0 to 15; from NIGHT 0 on)");
    for (int k = 1; k <= 15; k++) {
      PlayedTruth p = new PlayedTruth();
      for (int i = 0; i < 16; i++) p.house(i, 3);
      p.report(k, 0, 0, 0);
      due("without a rail, " + k + " nights: trials, duets, sunsets of 0", p.lone(0), 30);
      p.house(k, 15);
      due("night " + k + " counts not", p.lone(0), 30);
      p.house(k - 1, 4);
      due("night " + (k - 1) + " counts", p.lone(0), 0);
    }
    says(32, "by which each REPORT is so, by HOUSES as they are");
    PlayedTruth p = new PlayedTruth();
    p.ends(1);
    for (int i = 0; i < 16; i++) p.house(i, 3);
    p.report(15, 0, 0, 0);
    due("END counts not", p.lone(0), 30);
    p.night();
    due("nor that it is over", p.lone(0), 30);
    // Matches learn 4 in even nights: 0, 2, .. 14 are eight.
    p.forget();
    p.report(15, 0, 32, 32);
    p.report(14, 0, 28, 28);
    p.report(1, 0, 4, 4);
    p.report(2, 0, 4, 4);
    due("odd and even nights", p.lone(0), 10);
    due("matches", p.lone(1), 5);
  }

  private static void loneMended() {
    says(32, "each NIGHT it is mended, SETTLED or not, then DRAWS; TRUTH is never less.");
    PlayedTruth p = new PlayedTruth();
    for (int i = 0; i < 16; i++) p.house(i, 4);
    // A trial of 54: 54 + 8 + 5, 67 + 8 + 6, 81 + 8 + 8; then 99 at most.
    p.report(0, 0, 54, 54);
    p.report(1, 0, 67, 67);
    p.report(2, 0, 81, 81);
    p.report(3, 0, 97, 97);
    p.report(4, 0, 99, 99);
    p.report(15, 0, 99, 99);
    due("trials of 54", p.lone(0), 10);
    due("trials", p.lone(1), 1);
    // Crowds and matches of 0 are 9 when they draw: of pretty 0 (10 - 1) / 2, of 1 and 2 (11 - 1) / 2, (12 - 1) / 2.
    due("mended ahead of what it draws: 4", fits(4, 0, 0, 0, 0, 1, 1, 4, 4), 2);
    due("mended ahead of what it draws: 5", fits(4, 0, 0, 0, 0, 1, 1, 5, 5), 4);
  }

  private static void loneTouchedByNothing() {
    says(32, "in no NOISE, no LIGHT");
    PlayedTruth p = new PlayedTruth();
    for (int f = 0; f < 6; f++) {
      p.place(f, 0, 9);
      p.place(f, 1, 9);
      p.scene(1, 99, 0, f);
      p.change(f, 4, 1);
    }
    Check.tell(p, "scene trim;");
    p.report(0, 0, 0, 0);
    p.report(1, 0, 16, 16);
    p.report(1, 1, 9, 9);
    // A duet of 16 and of pretty 0 draws 10 - 1, too.
    due("all trials and a duet", p.lone(0), 11);
    due("trials", p.lone(1), 1);
  }

  private static void liar() {
    says(33, "NONE: some FIT; or there is no such REPORT.");
    refused("no reports", NONE, PlayedTruth::new, PlayedTruth::liar);
    refused("some fit", NONE, Bounds::usual, PlayedTruth::liar);
    refused("two are wrong", NONE, () -> {
      PlayedTruth p = usual();
      p.report(0, 0, 55, 99);
      p.report(0, 1, 1, 1);
      return p;
    }, PlayedTruth::liar);
    PlayedTruth single = new PlayedTruth();
    single.house(0, 0);
    single.report(0, 0, 0, 0);
    single.report(1, 1, 10, 10);
    due("one fits alone", single.lone(0), 1);
    due("so there is none", single.liar(), NONE);
    single.report(0, 1, 0, 0);
    due("so there is none", single.liar(), NONE);
    says(33, "if none FITS, the least REPORT but for which some would.");
    PlayedTruth one = new PlayedTruth();
    one.report(0, 0, 55, 99);
    due("one alone: the first", one.liar(), 0);
    for (int wrong = 0; wrong < 6; wrong++) {
      PlayedTruth p = new PlayedTruth();
      for (int r = 0; r < 6; r++) p.report(0, 0, r == wrong ? 55 : 0, 99);
      due("wrong is " + wrong, p.liar(), wrong);
    }
    PlayedTruth pair = new PlayedTruth();
    pair.report(0, 0, 0, 99);
    pair.report(0, 0, 0, 0);
    pair.report(0, 0, 6, 6);
    due("either of two: the least", pair.liar(), 1);
    pair.report(0, 0, 6, 6);
    due("one against two", pair.liar(), 1);
    pair.report(0, 0, 0, 0);
    due("two against two", pair.liar(), NONE);
    PlayedTruth turned = new PlayedTruth();
    turned.report(0, 0, 6, 6);
    turned.report(0, 0, 0, 0);
    due("either of two, in another order: the least", turned.liar(), 0);
    turned.forget();
    turned.report(0, 0, 54, 54);
    turned.report(0, 0, 0, 99);
    turned.report(0, 0, 0, 53);
    due("either of two apart: the least", turned.liar(), 0);
  }

  // ---- lots

  private static void seed() {
    says(34, "z becomes v: what it was.");
    PlayedTruth p = new PlayedTruth();
    int[] values = {0, -1, LEAST, MOST, 1};
    int was = 1;
    for (int v : values) {
      due("seed(" + v + ")", p.seed(v), was);
      was = v;
    }
    due("seed(0)", p.seed(0), 1);
  }

  private static void lotIsOver() {
    says(35, "STATE: it is OVER.");
    refused("lot, over", STATE, Bounds::over, PlayedTruth::lot);
    PlayedTruth p = new PlayedTruth();
    p.ends(16);
    for (int i = 0; i < 16; i++) due("lot " + i, p.lot(), 0);
    int z = p.seed(5);
    due("the seventeenth", p.lot(), STATE);
    due("z stays", p.seed(z), 5);
    int want = 1;
    for (int i = 0; i < 16; i++) want = want * 1103515245 + 12345;
    due("sixteen steps", z, want);
  }

  private static void lotWraps() {
    says(35, "z (an int; 1 at first) becomes z * 1103515245 + 12345; the ACT in it is what z >>> 16 leaves by how many SCENES there are and 1.");
    int[] seeds = {0, 1, -1, 2, LEAST, MOST, LEAST + 1, 65535, 65536, -65536, 1 << 16, 123456789, -987654321};
    for (int scenes = 0; scenes <= 6; scenes++) {
      for (int seed : seeds) {
        PlayedTruth p = new PlayedTruth();
        for (int k = 0; k < scenes; k++) p.scene(1, 20, 0, 0);
        p.seed(seed);
        // By longs, in which nothing wraps, cut to 32 bits that are never below 0.
        long z = (seed & 0xffffffffL) * 1103515245L + 12345 & 0xffffffffL;
        int act = (int) ((z >> 16) % (scenes + 1));
        due("lot, z " + seed + ", " + scenes + " scenes", p.lot(), 9 * scenes + (act > 0 ? 18 : 0));
        for (int k = 0; k < scenes; k++) due("truth of " + k + ", z " + seed, p.sceneOf(k, 1), act == k + 1 ? 37 : 19);
        due("z behind " + seed, p.seed(0), (int) z);
      }
    }
  }

  private static void timesRanges() {
    says(36, "How many of n (1 to 40) times all NIGHTS yet by LOT");
    int[] none = {-1, 0, 41, LEAST, MOST};
    for (int n : none) refusedEverywhere("times(" + n + ", 0)", BAD, p -> p.times(n, 0));
    says(36, "are WORTH v (0 to 999) or more");
    int[] noWorth = {-1, 1000, LEAST, MOST};
    for (int v : noWorth) refusedEverywhere("times(1, " + v + ")", BAD, p -> p.times(1, v));
    PlayedTruth p = new PlayedTruth();
    for (int n = 1; n <= 40; n++) {
      due("times(" + n + ", 0)", p.times(n, 0), n);
      due("times(" + n + ", 1)", p.times(n, 1), 0);
    }
    due("times(40, 999)", p.times(40, 999), 0);
    for (int k = 0; k < 6; k++) p.scene(3, 0, 9, 0);
    due("times(40, 999), so pretty", p.times(40, 999), 40);
  }

  private static void timesWorth() {
    says(36, "are WORTH v (0 to 999) or more");
    PlayedTruth p = new PlayedTruth();
    p.scene(1, 60, 0, 0);
    p.change(0, 4, 1);
    due("as much", p.times(40, 108), 40);
    due("1 more", p.times(40, 109), 0);
    p.ends(1);
    due("as much, in one night", p.times(3, 9), 3);
    due("1 more, in one night", p.times(3, 10), 0);
    says(36, "all NIGHTS yet by LOT, each from how it is now");
    p.ends(2);
    p.night();
    due("what was ahead counts not", p.times(3, 10), 0);
    due("the last night", p.times(3, 9), 3);
    p.night();
    due("over", p.times(40, 0), 40);
    due("over", p.times(40, 1), 0);
  }

  private static void timesSeed() {
    says(36, "(z goes on from one to the next)");
    int[] seeds = {1, LEAST, -77};
    for (int seed : seeds) {
      PlayedTruth p = twoForLots();
      p.seed(seed);
      PlayedTruth q = twoForLots();
      q.keep();
      int z = seed;
      int[] worths = new int[40];
      for (int i = 0; i < 40; i++) {
        q.again();
        q.seed(z);
        for (int j = 0; j < 3; j++) worths[i] += q.lot();
        z = q.seed(0);
      }
      int[] values = {worths[0], worths[0] + 1, worths[1], worths[39], worths[39] + 1};
      int[] counts = {1, 2, 39, 40};
      for (int v : values) {
        for (int n : counts) {
          int count = 0;
          for (int i = 0; i < n; i++) if (worths[i] >= v) count++;
          due("times(" + n + ", " + v + "), z " + seed, p.times(n, v), count);
        }
      }
      says(36, "(all is as it was in the end, z, too)");
      due("z", p.seed(seed), seed);
      says(36, "(z goes on from one to the next)");
    }
  }

  private static PlayedTruth twoForLots() {
    PlayedTruth p = new PlayedTruth();
    p.scene(1, 30, 0, 0);
    p.scene(4, 0, 5, 1);
    p.ends(3);
    return p;
  }

  private static void askedChangesNothing() {
    says(36, "(all is as it was in the end, z, too)");
    refused("times", usual().times(40, 400), Bounds::usual, p -> p.times(40, 400));
    refused("times, full", full().times(40, 400), Bounds::full, p -> p.times(40, 400));
    says(32, "What is asked changes nothing, if not told.");
    for (int what = 0; what <= 3; what++) {
      int w = what;
      refused("lone(" + what + ")", usual().lone(w), Bounds::usual, p -> p.lone(w));
    }
    says(33, "What is asked changes nothing, if not told.");
    refused("liar", 2, () -> {
      PlayedTruth p = usual();
      p.report(0, 0, 55, 99);
      return p;
    }, PlayedTruth::liar);
  }
}
