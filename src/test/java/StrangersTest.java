/** Promises 30 to 36: reports of a lone scene, lots. */
public final class StrangersTest {
  private static final int BAD = Check.BAD, FULL = Check.FULL, STATE = Check.STATE, NONE = Check.NONE;

  public static void main(String[] args) {
    report();
    forget();
    loneByTruth();
    loneByDrawn();
    loneByHouses();
    liar();
    seed();
    lot();
    times();
    Check.end("StrangersTest");
  }

  private static void due(String call, int got, int want) {
    Check.due(call, got, want);
  }

  private static void report() {
    PlayedTruth p = new PlayedTruth();
    int[][] wrongs = {{-1, 0, 0, 1}, {16, 0, 0, 1}, {0, -1, 0, 1}, {0, 2, 0, 1}, {0, 0, -1, 1}, {0, 0, 0, 100},
        {0, 0, 100, 100}, {0, 1, -1, 1}, {0, 1, 0, 1000}, {0, 1, 1000, 1000}, {0, 0, 5, 4}, {0, 1, 5, 4},
        {1 << 31, 0, 0, 1}, {0, 1 << 31, 0, 1}, {0, 0, 1 << 31, 1}, {0, 0, 0, 1 << 31}, {0, 0, 0, Integer.MAX_VALUE}};
    for (int[] w : wrongs) due("30 wrong", p.report(w[0], w[1], w[2], w[3]), BAD);
    due("30 none came", p.many(3), 0);
    due("30 least", p.report(0, 0, 0, 0), 0);
    due("30 most", p.report(15, 0, 99, 99), 1);
    due("30 drawn", p.report(15, 1, 0, 999), 2);
    due("30 drawn", p.report(15, 1, 999, 999), 3);
    due("30 fifth", p.report(1, 0, 0, 99), 4);
    due("30 sixth", p.report(1, 0, 0, 99), 5);
    due("30 FULL", p.report(1, 0, 0, 99), FULL);
    due("30 BAD is named ahead of FULL", p.report(1, 0, 9, 8), BAD);
    due("30 many", p.many(3), 6);
  }

  private static void forget() {
    PlayedTruth p = new PlayedTruth();
    due("31 none", p.forget(), 0);
    p.report(0, 1, 5, 5);
    p.report(0, 1, 5, 5);
    due("32 none fits", p.lone(0), 0);
    due("31 two", p.forget(), 2);
    due("31 many", p.many(3), 0);
    due("32 all fit", p.lone(0), 500);
    due("30 from the first again", p.report(0, 1, 0, 0), 0);
    due("32 all fit", p.lone(0), 500);
  }

  private static void loneByTruth() {
    PlayedTruth p = new PlayedTruth();
    due("32 all", p.lone(0), 500);
    due("32 least kind", p.lone(1), 1);
    due("32 least pretty", p.lone(2), 0);
    due("32 least truth", p.lone(3), 0);
    p.report(0, 0, 5, 7);
    due("32 6 at first", p.lone(0), 50);
    due("32 6 at first", p.lone(3), 6);
    p.report(1, 0, 19, 19);
    // Only a sunset learns 16 - 3.
    due("32 a sunset", p.lone(0), 10);
    due("32 a sunset", p.lone(1), 3);
    p.forget();
    p.report(1, 0, 0, 13);
    // With 0: sunsets; 14 is a crowd's and a match's; trials and duets learn 16.
    due("32 a sunset of 0", p.lone(0), 10);
    p.forget();
    p.report(2, 0, 14, 14);
    // A match of 0 learns 14, then nothing, and fades not.
    due("32 a match of 0", p.lone(0), 10);
    due("32 a match of 0", p.lone(1), 5);
    due("32 a match of 0", p.lone(3), 0);
    p.forget();
    p.report(15, 0, 99, 99);
    due("32 99 at most", p.lone(0) > 0 ? 1 : 0, 1);
    p.forget();
    p.report(0, 0, 54, 99);
    p.report(15, 0, 0, 99);
    due("32 54 at first", p.lone(0), 50);
    p.forget();
    p.report(0, 0, 55, 99);
    due("32 none", p.lone(0), 0);
    for (int what = 1; what <= 3; what++) due("32 NONE", p.lone(what), NONE);
    due("32 what -1", p.lone(-1), BAD);
    due("32 what 4", p.lone(4), BAD);
    for (int v : Check.FAR) due("32 far", p.lone(v), BAD);
  }

  private static void loneByDrawn() {
    PlayedTruth p = new PlayedTruth();
    p.report(3, 1, 27, 27);
    p.report(15, 1, 135, 135);
    // Trials draw 9 each night, whatever else; no other draws the same.
    due("32 trials", p.lone(0), 100);
    due("32 trials", p.lone(1), 1);
    p.forget();
    p.report(1, 1, 46, 99);
    // Mended ahead: a sunset of 0 is 13 true and draws 2 (10 + 9 - 1 + 9); with pretty 8 it's 50; 7: 46.
    p.report(0, 0, 0, 0);
    due("32 pretty sunsets", p.lone(0), 3);
    due("32 pretty sunsets", p.lone(1), 3);
    due("32 the least pretty", p.lone(2), 7);
    p.forget();
    p.report(0, 1, 0, 0);
    due("32 nothing is drawn behind 0 nights", p.lone(0), 500);
    p.report(0, 1, 1, 999);
    due("32 nothing is drawn behind 0 nights", p.lone(0), 0);
    p.forget();
    p.report(0, 0, 0, 0);
    p.report(1, 1, 5, 5);
    // 0 at first, then 14: a crowd or match of pretty 1 or 2 draws (11 - 1) / 2, (12 - 1) / 2; its number is 0.
    due("32 crowds and matches", p.lone(0), 4);
    due("32 crowds and matches", p.lone(1), 4);
    due("32 crowds and matches", p.lone(2), 1);
  }

  private static void loneByHouses() {
    PlayedTruth p = new PlayedTruth();
    for (int i = 0; i < 15; i++) p.house(i, 3);
    p.place(0, 0, 9);
    p.place(0, 1, 9);
    p.scene(1, 99, 0, 0);
    Check.tell(p, "scene keep;");
    p.ends(1);
    p.report(15, 0, 0, 0);
    // Without a rail only trials (0: a tenth of 0), duets and sunsets of 0 stay so.
    due("32 by the houses as they are", p.lone(0), 30);
    p.house(14, 4);
    due("32 by the last of 15 nights", p.lone(0), 0);
    p.house(14, 3);
    p.house(15, 15);
    due("32 not by night 15", p.lone(0), 30);
    p.night();
    due("32 from night 0 on, though it is 1", p.lone(0), 30);
    p.forget();
    p.report(15, 0, 64, 64);
    // A crowd of 4 each night would be 60 more; of 0 first it is 60; a match 8 nights of 4: 32 more.
    due("32 none is 64", p.lone(0), 0);
    p.forget();
    p.report(15, 0, 60, 60);
    // A trial of 18 by tenths: 19, 20, 22, .. 28, 30, 33, .. 42, 46, 50, 55, 60.
    due("32 a crowd of 0 and a trial of 18", p.lone(0), 20);
    due("32 a trial of 18", p.lone(1), 1);
    due("32 a trial of 18", p.lone(3), 18);
    p.forget();
    p.report(15, 0, 32, 32);
    due("32 a match of 0 in eight even nights, settled or not", p.lone(1), 5);
    due("32 a match of 0", p.lone(3), 0);
  }

  private static void liar() {
    PlayedTruth p = new PlayedTruth();
    due("33 no reports", p.liar(), NONE);
    p.report(0, 0, 0, 10);
    due("33 some fit", p.liar(), NONE);
    p.report(0, 0, 0, 12);
    p.report(0, 0, 20, 40);
    due("33 the third", p.liar(), 2);
    p.report(0, 0, 50, 60);
    due("33 two are wrong", p.liar(), NONE);
    p.forget();
    p.report(0, 0, 0, 10);
    p.report(0, 0, 20, 40);
    due("33 either: the least", p.liar(), 0);
    p.forget();
    p.report(0, 0, 1, 5);
    due("33 alone", p.liar(), 0);
    p.report(0, 1, 7, 7);
    due("33 both wrong", p.liar(), NONE);
    p.forget();
    p.report(0, 1, 0, 0);
    p.report(1, 0, 0, 99);
    p.report(2, 0, 0, 99);
    p.report(3, 0, 0, 99);
    p.report(4, 0, 0, 99);
    p.report(15, 1, 999, 999);
    due("33 the sixth", p.liar(), 5);
  }

  private static void seed() {
    PlayedTruth p = new PlayedTruth();
    due("34 at first", p.seed(-5), 1);
    due("34 then", p.seed(Integer.MIN_VALUE), -5);
    due("34 then", p.seed(0), Integer.MIN_VALUE);
  }

  private static void lot() {
    PlayedTruth p = new PlayedTruth();
    p.scene(1, 0, 0, 0);
    p.scene(1, 0, 0, 0);
    int z = 1;
    int[] truths = {0, 0};
    for (int i = 0; i < 12; i++) {
      z = z * 1103515245 + 12345;
      int told = (z >>> 16) % 3;
      int worth = 18;
      for (int k = 0; k < 2; k++) {
        int more = told == k + 1 && truths[k] < 60 ? 16 + truths[k] / 10 : 0;
        worth += more;
        truths[k] += more;
        if (truths[k] > 0 && truths[k] < 60) truths[k]--;
      }
      due("35 lot", p.lot(), worth);
      due("35 truth", p.sceneOf(0, 1), truths[0]);
      due("35 truth", p.sceneOf(1, 1), truths[1]);
    }
    due("35 STATE", p.lot(), STATE);
    due("35 z is as it was", p.seed(1), z);
    due("35 night", p.state(0), 12);
    PlayedTruth q = new PlayedTruth();
    due("35 without scenes", q.lot(), 0);
    due("35 z goes on", q.seed(1), 1103527590);
    q.seed(-1);
    q.scene(4, 50, 0, 0);
    // z is below 0 then, but what is left never is.
    int below = -1103515245 + 12345;
    int more = (below >>> 16) % 2 == 1 ? 14 : 0;
    due("35 z below 0", q.lot(), more + (10 - (50 + more) / 9) / 2);
  }

  private static void times() {
    PlayedTruth p = new PlayedTruth();
    p.scene(1, 0, 0, 0);
    p.scene(4, 30, 5, 1);
    p.ends(4);
    p.seed(99);
    String before = Check.look(p);
    int[] worths = new int[40];
    PlayedTruth q = new PlayedTruth();
    q.scene(1, 0, 0, 0);
    q.scene(4, 30, 5, 1);
    q.ends(4);
    q.keep();
    int z = 99;
    for (int i = 0; i < 40; i++) {
      q.again();
      q.seed(z);
      for (int j = 0; j < 4; j++) worths[i] += q.lot();
      z = q.seed(0);
    }
    for (int v = 0; v <= 150; v++) {
      int n = 1 + v % 40;
      int count = 0;
      for (int i = 0; i < n; i++) if (worths[i] >= v) count++;
      due("36 times", p.times(n, v), count);
    }
    Check.same("36 times", before, Check.look(p));
    due("36 z, too", p.seed(99), 99);
    due("36 n 0", p.times(0, 0), BAD);
    due("36 n 41", p.times(41, 0), BAD);
    due("36 n 40", p.times(40, 0), 40);
    due("36 v -1", p.times(1, -1), BAD);
    due("36 v 1000", p.times(1, 1000), BAD);
    due("36 v 999", p.times(1, 999), 0);
    for (int v : Check.FAR) {
      due("36 far", p.times(v, 0), BAD);
      due("36 far", p.times(1, v), BAD);
    }
    for (int i = 0; i < 4; i++) p.lot();
    due("36 over", p.times(7, 0), 7);
    due("36 over", p.times(7, 1), 0);
  }
}
