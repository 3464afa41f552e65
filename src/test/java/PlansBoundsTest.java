/** The boundary cases of promises 23 to 29 and 37 to 40: plans, bills, bars, the game, rows and who reads them. */
public final class PlansBoundsTest extends Bounds {
  public static void main(String[] args) {
    lengths();
    best();
    ith();
    ways();
    setsOfScenes();
    bill();
    bars();
    game();
    gameTillOver();
    play();
    prove();
    row();
    alterRow();
    judge();
    judgeOver();
    judgeActs();
    askedChangesNothing();
    end("PlansBoundsTest", 23, 24, 25, 26, 27, 28, 29, 37, 38, 39, 40);
  }

  /** Trials that are kept: whatever is told, each draws 9 a night. */
  private static PlayedTruth kept(int scenes, int end) {
    PlayedTruth p = new PlayedTruth();
    for (int k = 0; k < scenes; k++) p.scene(1, 0, 0, 0);
    p.ends(end);
    Check.tell(p, "scene keep;");
    return p;
  }

  /** A trial of 44, which is settled by one night, and a crowd of 20, which needs three: 14, 13, 13 more. */
  private static PlayedTruth two() {
    PlayedTruth p = new PlayedTruth();
    p.scene(1, 44, 0, 0);
    p.scene(4, 20, 8, 2);
    return p;
  }

  /** These two behind the only night that there is; the trial is settled by it. */
  private static PlayedTruth twoOver() {
    PlayedTruth p = two();
    p.ends(1);
    p.night();
    return p;
  }

  // ---- plans

  private static void lengths() {
    int[] none = {-1, 5, 6, LEAST, MOST};
    for (int n : none) {
      says(23, "WORTH of the BEST PLANS of n (0 to 4).");
      refusedEverywhere("best(" + n + ")", BAD, p -> p.best(n));
      says(24, "The i-th (0 to 3) ACT of the FIRST of them.");
      refusedEverywhere("ith(" + n + ", 0)", BAD, p -> p.ith(n, 0));
      says(25, "How many of them there are. BAD.");
      refusedEverywhere("ways(" + n + ")", BAD, p -> p.ways(n));
      says(26, "BILL by n (0 to 4), a set of SCENES (of such as there are).");
      refusedEverywhere("bill(" + n + ", 0)", BAD, p -> p.bill(n, 0));
      says(27, "BAR likewise.");
      refusedEverywhere("bars(" + n + ", 0)", BAD, p -> p.bars(n, 0));
      says(28, "VALUE of a GAME of n (1 to 4).");
      refusedEverywhere("game(" + n + ")", BAD, p -> p.game(n));
      says(29, "The least ACT by which who begins comes to it.");
      refusedEverywhere("play(" + n + ")", BAD, p -> p.play(n));
      says(37, "ROWS of the FIRST of the BEST PLANS of n (0 to 4): how many.");
      refusedEverywhere("prove(" + n + ")", BAD, p -> p.prove(n));
    }
    says(28, "VALUE of a GAME of n (1 to 4).");
    refusedEverywhere("game(0)", BAD, p -> p.game(0));
    says(29, "of several the first named: BAD (-1)");
    refusedEverywhere("play(0)", BAD, p -> p.play(0));
    refused("play(5), over", BAD, PlansBoundsTest::twoOver, p -> p.play(5));
  }

  private static void best() {
    says(23, "WORTH of the BEST PLANS of n (0 to 4).");
    PlayedTruth p = kept(2, 16);
    for (int n = 0; n <= 4; n++) due("best(" + n + ")", p.best(n), 18 * n);
    says(23, "n NIGHTS (fewer, if it is OVER), ahead of each an ACT");
    for (int end = 1; end <= 5; end++) {
      PlayedTruth q = kept(2, end);
      for (int n = 0; n <= 4; n++) due("best(" + n + ") of " + end, q.best(n), 18 * Math.min(n, end));
    }
    PlayedTruth last = kept(1, 16);
    for (int i = 0; i < 15; i++) last.night();
    due("the last night", last.best(4), 9);
    last.night();
    due("over", last.best(4), 0);
    due("over, none asked", last.best(0), 0);
    due("no scenes", new PlayedTruth().best(4), 0);
    says(23, "or 1 more than the number of the SCENE that is.");
    PlayedTruth six = kept(6, 16);
    Check.tell(six, "scene if number < 5 keep;");
    due("the last of six", six.best(1), 16 + 54);
    Check.tell(six, "scene if number > 0 keep;");
    due("the first of six", six.best(1), 16 + 54);
  }

  private static void ith() {
    says(24, "The i-th (0 to 3) ACT of the FIRST of them.");
    int[] none = {-1, 4, 5, LEAST, MOST};
    for (int i : none) {
      refusedEverywhere("ith(4, " + i + ")", BAD, p -> p.ith(4, i));
      refusedEverywhere("ith(0, " + i + ")", BAD, p -> p.ith(0, i));
    }
    PlayedTruth six = kept(6, 16);
    Check.tell(six, "scene if number < 5 keep;");
    for (int i = 0; i <= 3; i++) due("ith(4, " + i + ")", six.ith(4, i), 6);
    says(24, "NONE: it has not so many.");
    for (int n = 0; n <= 3; n++) {
      int nights = n;
      for (int i = n; i <= 3; i++) {
        int at = i;
        refused("ith(" + n + ", " + i + ")", NONE, Bounds::full, p -> p.ith(nights, at));
        if (n > 0) refused("ith(4, " + i + ") of " + n + " nights", NONE, () -> kept(1, nights), p -> p.ith(4, at));
      }
      if (n > 0) due("ith(" + n + ", " + (n - 1) + ")", six.ith(n, n - 1), 6);
    }
    for (int i = 0; i <= 3; i++) {
      int at = i;
      refused("ith(4, " + i + "), over", NONE, PlansBoundsTest::twoOver, p -> p.ith(4, at));
    }
    says(24, "the FIRST of these is that with the lesser ACT where they are unlike first.");
    PlayedTruth poor = new PlayedTruth();
    poor.scene(2, 59, 0, 0);
    due("first the duet is worth telling", poor.ith(1, 0), 1);
    poor.change(0, 1, 99);
    poor.change(0, 4, 1);
    due("then all plans are worth 0", poor.best(4), 0);
    for (int i = 0; i <= 3; i++) due("so the first is: ith(4, " + i + ")", poor.ith(4, i), 0);
    due("all are best", poor.ways(4), 16);
    PlayedTruth all = kept(6, 16);
    for (int i = 0; i <= 3; i++) due("all are best: ith(4, " + i + ")", all.ith(4, i), 0);
    Check.tell(all, "scene if night < 3 keep; scene if number < 3 keep; scene if number > 4 keep;");
    int[] want = {0, 0, 0, 4};
    for (int i = 0; i <= 3; i++) due("4 or 5 in the last: ith(4, " + i + ")", all.ith(4, i), want[i]);
  }

  private static void ways() {
    says(25, "How many of them there are. BAD.");
    for (int scenes = 0; scenes <= 6; scenes++) {
      PlayedTruth p = kept(scenes, 16);
      int all = 1;
      for (int n = 0; n <= 4; n++) {
        due("ways(" + n + ") of " + scenes + " scenes", p.ways(n), all);
        all *= scenes + 1;
      }
    }
    due("two nights left", kept(6, 2).ways(4), 49);
    due("over", twoOver().ways(4), 1);
    PlayedTruth p = kept(6, 16);
    Check.tell(p, "scene if night < 3 keep; scene if number < 3 keep; scene if number > 4 keep;");
    due("three nights of 7, then 2", p.ways(4), 343 * 2);
  }

  private static void setsOfScenes() {
    int[] none = {-1, 1 << 6, LEAST, MOST, 1 << 30};
    for (int set : none) {
      says(26, "BILL by n (0 to 4), a set of SCENES (of such as there are).");
      refusedEverywhere("bill(4, " + set + ")", BAD, p -> p.bill(4, set));
      refusedEverywhere("bill(0, " + set + ")", BAD, p -> p.bill(0, set));
      says(27, "BAR likewise.");
      refusedEverywhere("bars(4, " + set + ")", BAD, p -> p.bars(4, set));
      refusedEverywhere("bars(0, " + set + ")", BAD, p -> p.bars(0, set));
    }
    for (int scenes = 0; scenes <= 6; scenes++) {
      int count = scenes;
      PlayedTruth p = kept(scenes, 16);
      says(26, "BILL by n (0 to 4), a set of SCENES (of such as there are).");
      due("all of " + scenes, p.bill(1, (1 << scenes) - 1), scenes == 0 ? 0 : NONE);
      refused("one that isn't, of " + scenes, BAD, () -> kept(count, 16), q -> q.bill(1, 1 << count));
      says(27, "BAR likewise.");
      due("all of " + scenes, p.bars(1, (1 << scenes) - 1), scenes == 0 ? NONE : 0);
      refused("one that isn't, of " + scenes, BAD, () -> kept(count, 16), q -> q.bars(1, 1 << count));
    }
    says(26, "of several the first named: BAD (-1)");
    refused("bill(0, 4) of two", BAD, PlansBoundsTest::two, p -> p.bill(0, 4));
    refused("bill(5, 3) of two", BAD, PlansBoundsTest::two, p -> p.bill(5, 3));
  }

  private static void bill() {
    says(26, "the fewest ACTS that aren't 0 in a PLAN of n behind which each of them is SETTLED.");
    PlayedTruth p = two();
    for (int n = 0; n <= 4; n++) {
      due("none asked, by " + n, p.bill(n, 0), 0);
      due("the trial, by " + n, p.bill(n, 1), n >= 1 ? 1 : NONE);
      due("the crowd, by " + n, p.bill(n, 2), n >= 3 ? 3 : NONE);
      // The crowd fades by 1 in the trial's night: 20, 33, 46, 60, so the trial must come behind it; by then it is 41.
      due("both, by " + n, p.bill(n, 3), n >= 4 ? 4 : NONE);
    }
    p.ends(3);
    due("the crowd, three nights left", p.bill(4, 2), 3);
    due("both, three nights left", p.bill(4, 3), NONE);
    p.change(1, 4, 1);
    due("settled now: 0 acts", p.bill(0, 2), 0);
    due("settled now: 0 acts", p.bill(4, 2), 0);
    due("settled now, over", twoOver().bill(4, 1), 0);
    says(26, "BAD; NONE.");
    refused("the crowd, by 2", NONE, PlansBoundsTest::two, q -> q.bill(2, 2));
    refused("the crowd, over", NONE, PlansBoundsTest::twoOver, q -> q.bill(4, 2));
    PlayedTruth four = new PlayedTruth();
    for (int k = 0; k < 6; k++) four.scene(1, 55, 0, 0);
    due("four of six by four", four.bill(4, 4 | 8 | 16 | 32), 4);
    due("five of six by four", four.bill(4, 2 | 4 | 8 | 16 | 32), NONE);
    due("the last of six by one", four.bill(1, 32), 1);
  }

  private static void bars() {
    says(27, "the least of them that is so behind no PLAN of n.");
    PlayedTruth p = two();
    for (int n = 0; n <= 4; n++) {
      due("none asked, by " + n, p.bars(n, 0), NONE);
      due("the trial, by " + n, p.bars(n, 1), n >= 1 ? NONE : 0);
      due("the crowd, by " + n, p.bars(n, 2), n >= 3 ? NONE : 1);
      due("both, by " + n, p.bars(n, 3), n >= 3 ? NONE : n >= 1 ? 1 : 0);
    }
    due("over: the trial is settled now", twoOver().bars(4, 3), 1);
    says(27, "NONE: each is so behind some.");
    refused("each by a plan of its own", NONE, PlansBoundsTest::two, q -> q.bars(3, 3));
    PlayedTruth six = new PlayedTruth();
    for (int k = 0; k < 6; k++) six.scene(1, 55, 0, 0);
    due("each of six by one", six.bars(1, 63), NONE);
    six.change(5, 1, 0);
    due("the last of six", six.bars(1, 63), 5);
    six.change(2, 1, 0);
    due("the least of two", six.bars(1, 63), 2);
    due("not asked of", six.bars(1, 63 - 4), 5);
    due("not asked of", six.bars(1, 63 - 4 - 32), NONE);
    six.change(2, 4, 1);
    due("settled now", six.bars(0, 4), NONE);
  }

  // ---- a game

  private static void game() {
    says(28, "VALUE of a GAME of n (1 to 4).");
    PlayedTruth p = kept(3, 16);
    for (int n = 1; n <= 4; n++) due("game(" + n + ")", p.game(n), 27 * n);
    says(28, "two in turn, ahead of n NIGHTS (till it is OVER) each an ACT (also 0)");
    // Who begins mends the trial of 0: 16. Then the other one tells none; it fades to 14, which learns 17.
    PlayedTruth one = new PlayedTruth();
    one.scene(1, 0, 0, 0);
    due("the first alone", one.game(1), 16 + 9);
    due("the other one tells none", one.game(2), 16 + 18);
    due("the first again", one.game(3), 16 + 17 + 27);
    due("the other one again", one.game(4), 16 + 17 + 36);
    due("no scenes", new PlayedTruth().game(4), 0);
  }

  private static void gameTillOver() {
    says(28, "(till it is OVER)");
    for (int end = 1; end <= 4; end++) {
      PlayedTruth p = kept(3, end);
      for (int n = 1; n <= 4; n++) due("game(" + n + ") of " + end, p.game(n), 27 * Math.min(n, end));
    }
    due("over", twoOver().game(4), 0);
    due("over", twoOver().game(1), 0);
    PlayedTruth one = new PlayedTruth();
    one.scene(1, 0, 0, 0);
    one.ends(3);
    due("three nights left: the first has the last word", one.game(4), 16 + 17 + 27);
    one.ends(2);
    due("two nights left", one.game(4), 16 + 18);
  }

  private static void play() {
    says(29, "The least ACT by which who begins comes to it.");
    due("all are as good", kept(6, 16).play(4), 0);
    due("no scenes", new PlayedTruth().play(1), 0);
    PlayedTruth six = kept(6, 16);
    Check.tell(six, "scene if number < 5 keep;");
    due("the last of six", six.play(1), 6);
    Check.tell(six, "scene if number < 3 keep; scene if number > 4 keep;");
    due("the least of two", six.play(1), 4);
    says(29, "NONE: it is OVER.");
    for (int n = 1; n <= 4; n++) {
      int nights = n;
      refused("play(" + n + "), over", NONE, Bounds::over, p -> p.play(nights));
      due("play(" + n + ") in the last night", kept(1, 1).play(n), 0);
    }
  }

  // ---- rows

  private static void prove() {
    says(37, "ROWS of the FIRST of the BEST PLANS of n (0 to 4): how many.");
    PlayedTruth p = kept(2, 16);
    int[] order = {4, 3, 2, 1, 0, 1, 4, 0, 2};
    for (int n : order) {
      due("prove(" + n + ")", p.prove(n), n);
      due("many(4)", p.many(4), n);
      for (int k = 0; k < 4; k++) due("row(" + k + ", 1)", p.row(k, 1), k < n ? 18 : NO_ROW);
    }
    says(37, "n NIGHTS (fewer, if it is OVER), ahead of each an ACT");
    for (int end = 1; end <= 4; end++) due("prove(4) of " + end, kept(2, end).prove(4), end);
    PlayedTruth q = kept(2, 3);
    q.prove(3);
    for (int i = 0; i < 3; i++) q.night();
    due("over: none, in place of three", q.prove(4), 0);
    due("many(4)", q.many(4), 0);
    due("row(0, 0)", q.row(0, 0), NO_ROW);
    due("no scenes", new PlayedTruth().prove(4), 4);
  }

  private static void row() {
    says(38, "Of ROW k: what = 0 ACT, 1 WORTH, 2 those SETTLED.");
    PlayedTruth p = two();
    p.prove(4);
    due("the first act", p.row(0, 0), 1);
    for (int k = 0; k < 4; k++) {
      due("row(" + k + ", 0)", p.row(k, 0), p.ith(4, k));
      due("settled behind it", p.row(k, 2) & ~3, 0);
    }
    due("worth of all", p.row(0, 1) + p.row(1, 1) + p.row(2, 1) + p.row(3, 1), p.best(4));
    PlayedTruth six = new PlayedTruth();
    for (int k = 0; k < 6; k++) six.scene(1, k < 2 ? 44 : 99, 0, 0);
    for (int k = 2; k < 6; k++) six.change(k, 4, 1);
    six.prove(2);
    due("all but one settled", six.row(0, 2), 61);
    due("all settled", six.row(1, 2), 63);
    says(38, "-9: there is none such, another what.");
    int[] noRow = {-1, 2, 3, 4, 5, LEAST, MOST};
    for (int k : noRow) {
      for (int what = 0; what <= 2; what++) {
        int w = what;
        refused("row(" + k + ", " + what + ") of two", NO_ROW, Bounds::usual, q -> q.row(k, w));
      }
    }
    int[] noWhat = {-1, 3, 4, LEAST, MOST};
    for (int what : noWhat) {
      for (int k = 0; k < 2; k++) {
        int at = k;
        refused("row(" + k + ", " + what + ")", NO_ROW, Bounds::usual, q -> q.row(at, what));
      }
      refused("row(3, " + what + ") of four", NO_ROW, Bounds::full, q -> q.row(3, what));
    }
    refused("row(4, 0) of four", NO_ROW, Bounds::full, q -> q.row(4, 0));
    refused("row(0, 0) of none", NO_ROW, PlayedTruth::new, q -> q.row(0, 0));
    due("row(3, 2) of four", full().row(3, 2) >= 0 ? 1 : 0, 1);
  }

  private static void alterRow() {
    says(39, "It becomes v: what it was.");
    PlayedTruth p = kept(2, 16);
    p.prove(4);
    int[] values = {0, -1, -9, LEAST, MOST};
    for (int k = 0; k < 4; k++) {
      for (int what = 0; what <= 2; what++) {
        int was = p.row(k, what);
        for (int v : values) {
          due("alterRow(" + k + ", " + what + ", " + v + ")", p.alterRow(k, what, v), was);
          due("is so", p.row(k, what), v);
          was = v;
        }
        p.alterRow(k, what, 100 * k + what);
      }
    }
    for (int k = 0; k < 4; k++) {
      for (int what = 0; what <= 2; what++) due("each alone", p.row(k, what), 100 * k + what);
    }
    says(39, "-9 likewise.");
    int[] noRow = {-1, 2, 3, 4, LEAST, MOST};
    for (int k : noRow) refused("alterRow(" + k + ", 0, 7) of two", NO_ROW, Bounds::usual, q -> q.alterRow(k, 0, 7));
    int[] noWhat = {-1, 3, LEAST, MOST};
    for (int what : noWhat) {
      refused("alterRow(1, " + what + ", 7)", NO_ROW, Bounds::usual, q -> q.alterRow(1, what, 7));
      refused("alterRow(3, " + what + ", 7) of four", NO_ROW, Bounds::full, q -> q.alterRow(3, what, 7));
    }
    refused("alterRow(4, 0, 7) of four", NO_ROW, Bounds::full, q -> q.alterRow(4, 0, 7));
    refused("alterRow(0, 0, 7) of none", NO_ROW, PlayedTruth::new, q -> q.alterRow(0, 0, 7));
  }

  private static void judge() {
    says(40, "0 all is right; else the first ROW that isn't, and 1 more.");
    due("no rows", new PlayedTruth().judge(), 0);
    due("no rows, over", twoOver().judge(), 0);
    for (int n = 0; n <= 4; n++) {
      PlayedTruth p = two();
      p.prove(n);
      due("all of " + n, p.judge(), 0);
      for (int k = n - 1; k >= 0; k--) {
        for (int what = 1; what <= 2; what++) {
          int was = p.row(k, what);
          p.alterRow(k, what, was + 1);
          due("1 more: row " + k + " of " + n, p.judge(), k + 1);
          p.alterRow(k, what, was - 1);
          due("1 less: row " + k + " of " + n, p.judge(), k + 1);
          p.alterRow(k, what, was);
        }
      }
      due("all again", p.judge(), 0);
    }
    PlayedTruth p = two();
    p.prove(4);
    p.alterRow(3, 1, -5);
    p.alterRow(1, 1, -5);
    due("the first of two", p.judge(), 2);
  }

  private static void judgeOver() {
    says(40, "right is one whose ACT is one, if it isn't OVER, the others as they are then.");
    for (int end = 1; end <= 4; end++) {
      PlayedTruth p = kept(2, 16);
      p.prove(4);
      p.ends(end);
      due("over ahead of row " + end, p.judge(), end < 4 ? end + 1 : 0);
    }
    PlayedTruth p = kept(2, 16);
    p.prove(1);
    p.ends(1);
    due("in the last night", p.judge(), 0);
    p.night();
    due("over", p.judge(), 1);
    says(40, "THE READER takes ROWS as a PLAN, from how it is now");
    PlayedTruth q = two();
    q.prove(1);
    q.night();
    due("a night behind", q.judge(), 1);
    q.anew();
    q.change(0, 1, 44);
    q.change(1, 1, 20);
    due("as it was", q.judge(), 0);
  }

  private static void judgeActs() {
    says(40, "0 none is told, or 1 more than the number of the SCENE that is.");
    int[] acts = {-1, 0, 6, 7, LEAST, MOST, 256};
    for (int act : acts) {
      PlayedTruth p = kept(6, 16);
      p.prove(2);
      p.alterRow(1, 0, act);
      due("act " + act + " of six scenes", p.judge(), act >= 0 && act <= 6 ? 0 : 2);
    }
    PlayedTruth none = new PlayedTruth();
    none.prove(1);
    due("act 0 of none", none.judge(), 0);
    none.alterRow(0, 0, 1);
    due("act 1 of none", none.judge(), 1);
    none.scene(1, 0, 0, 0);
    Check.tell(none, "scene keep;");
    due("now there is one, but it draws", none.judge(), 1);
    none.alterRow(0, 1, 9);
    due("so it is", none.judge(), 0);
  }

  private static void askedChangesNothing() {
    says(23, "What is asked changes nothing, if not told.");
    refused("best", two().best(4), PlansBoundsTest::two, p -> p.best(4));
    refused("best, over", 0, Bounds::over, p -> p.best(4));
    refused("ith", 1, PlansBoundsTest::two, p -> p.ith(1, 0));
    refused("ways", 1, PlansBoundsTest::two, p -> p.ways(1));
    refused("bill", 3, PlansBoundsTest::two, p -> p.bill(4, 2));
    refused("bars", 1, PlansBoundsTest::two, p -> p.bars(2, 2));
    refused("game", usual().game(4), Bounds::usual, p -> p.game(4));
    refused("play", usual().play(4), Bounds::usual, p -> p.play(4));
    refused("judge", usual().judge(), Bounds::usual, PlayedTruth::judge);
    refused("row", usual().row(1, 1), Bounds::usual, p -> p.row(1, 1));
    PlayedTruth p = usual();
    int night = p.state(0);
    int truth = p.state(6);
    p.prove(4);
    due("prove changes the rows alone", p.state(0) * 1000 + p.state(6), night * 1000 + truth);
  }
}
