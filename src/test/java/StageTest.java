/** Promises 1 to 11: the stage and its scenes. */
public final class StageTest {
  private static final int BAD = Check.BAD, FULL = Check.FULL, STATE = Check.STATE, NONE = Check.NONE;

  public static void main(String[] args) {
    aNewObject();
    scene();
    sceneOfLearns();
    sceneOfLeans();
    sceneOfDraws();
    sceneOfWill();
    change();
    remake();
    house();
    place();
    ends();
    anew();
    state();
    refusalsChangeNothing();
    Check.end("StageTest");
  }

  private static void due(String call, int got, int want) {
    Check.due(call, got, want);
  }

  private static void aNewObject() {
    PlayedTruth p = new PlayedTruth();
    for (int what = 0; what <= 6; what++) due("1 many(" + what + ")", p.many(what), 0);
    due("1 again", p.again(), NONE);
    due("1 night", p.state(0), 0);
    due("1 end", p.state(1), 12);
    due("1 score", p.state(2), 0);
    due("1 sceneOf", p.sceneOf(0, 0), BAD);
    for (int i = 0; i < 16; i++) due("1 house", p.house(i, 0), 9);
    for (int f = 0; f < 6; f++) {
      due("1 light", p.placeOf(f, 0), 0);
      due("1 noise", p.placeOf(f, 1), 0);
    }
    due("1 z", p.seed(0), 1);
    for (int i = 0; i < 4; i++) {
      due("1 sheet missing", p.write(i, 0, 0), Check.NOTHING);
      due("1 shelf empty", p.taken(i, 0), Check.NOTHING);
    }
    due("1 rows", p.row(0, 0), -9);
    due("1 judge", p.judge(), 0);
    due("1 trace", p.trace(0), NONE);
    due("1 another object is another", new PlayedTruth().house(0, 1), 9);
  }

  private static void scene() {
    PlayedTruth p = new PlayedTruth();
    for (int v : Check.FAR) {
      due("2 kind", p.scene(v, 0, 0, 0), BAD);
      due("2 truth", p.scene(1, v, 0, 0), BAD);
      due("2 pretty", p.scene(1, 0, v, 0), BAD);
      due("2 place", p.scene(1, 0, 0, v), BAD);
    }
    due("2 kind 0", p.scene(0, 0, 0, 0), BAD);
    due("2 kind 6", p.scene(6, 0, 0, 0), BAD);
    due("2 truth -1", p.scene(1, -1, 0, 0), BAD);
    due("2 truth 100", p.scene(1, 100, 0, 0), BAD);
    due("2 pretty -1", p.scene(1, 0, -1, 0), BAD);
    due("2 pretty 10", p.scene(1, 0, 10, 0), BAD);
    due("2 place -1", p.scene(1, 0, 0, -1), BAD);
    due("2 place 6", p.scene(1, 0, 0, 6), BAD);
    due("2 none came", p.many(0), 0);
    for (int kind = 1; kind <= 5; kind++) due("2 kinds", p.scene(kind, 99, 9, 5), kind - 1);
    due("2 least", p.scene(1, 0, 0, 0), 5);
    due("2 FULL", p.scene(1, 0, 0, 0), FULL);
    due("2 BAD is named ahead of FULL", p.scene(0, 0, 0, 0), BAD);
    for (int k = 0; k < 5; k++) {
      due("2 kept kind", p.sceneOf(k, 0), k + 1);
      due("2 kept truth", p.sceneOf(k, 1), 99);
      due("2 kept pretty", p.sceneOf(k, 2), 9);
      due("2 kept place", p.sceneOf(k, 3), 5);
      due("2 not settled at first, though so true", p.sceneOf(k, 4), 0);
    }
  }

  private static int learns(int kind, int truth, int rail, int night) {
    PlayedTruth p = new PlayedTruth();
    p.scene(kind, truth, 5, 3);
    for (int i = 0; i < night; i++) p.house(i, 0);
    p.house(night, 4 * rail + 3);
    if (night > 0) {
      p.sheet(0, 0, 16);
      p.goAll(0, 0, night);
      p.change(0, 1, truth);
    }
    return p.sceneOf(0, 5);
  }

  private static void sceneOfLearns() {
    for (int rail = 0; rail <= 3; rail++) {
      due("3 trial 0", learns(1, 0, rail, 0), 8 * rail);
      due("3 trial 9", learns(1, 9, rail, 0), 8 * rail);
      due("3 trial 99", learns(1, 99, rail, 0), 8 * rail + 9);
      due("3 duet 40", learns(2, 40, rail, 0), 8 * rail);
      due("3 duet 41", learns(2, 41, rail, 0), 4 * rail);
      due("3 crowd", learns(4, 77, rail, 1), 5 * rail + 4);
      due("3 match even", learns(5, 77, rail, 0), 5 * rail + 4);
      due("3 match odd", learns(5, 77, rail, 1), 0);
      due("3 match even again", learns(5, 77, rail, 2), 5 * rail + 4);
      due("3 match odd again", learns(5, 0, rail, 3), 0);
    }
    int[] low = {0, 5, 13, 21};
    int[] high = {0, 1, 5, 9};
    for (int rail = 0; rail <= 3; rail++) {
      due("3 sunset 40", learns(3, 40, rail, 0), low[rail]);
      due("3 sunset 41", learns(3, 41, rail, 0), high[rail]);
    }
    PlayedTruth p = new PlayedTruth();
    p.scene(1, 55, 0, 0);
    p.change(0, 4, 1);
    due("3 learns though settled", p.sceneOf(0, 5), 21);
    p.ends(16);
    for (int i = 0; i < 16; i++) p.night();
    due("3 no rail behind night 15", p.sceneOf(0, 5), 5);
    due("3 what -1", p.sceneOf(0, -1), BAD);
    due("3 what 10", p.sceneOf(0, 10), BAD);
    due("3 scene -1", p.sceneOf(-1, 0), BAD);
    due("3 scene 1", p.sceneOf(1, 0), BAD);
    for (int v : Check.FAR) {
      due("3 far scene", p.sceneOf(v, 0), BAD);
      due("3 far what", p.sceneOf(0, v), BAD);
    }
  }

  private static void sceneOfLeans() {
    PlayedTruth p = new PlayedTruth();
    p.scene(1, 70, 0, 2);
    p.scene(2, 70, 0, 2);
    p.scene(3, 70, 0, 2);
    p.scene(3, 0, 0, 3);
    p.scene(3, 0, 0, 2);
    p.scene(5, 0, 0, 1);
    due("3 leans on none that isn't settled", p.sceneOf(3, 7), 0);
    p.change(0, 4, 1);
    p.change(1, 4, 1);
    due("3 leans on two", p.sceneOf(3, 7), 2);
    due("3 leans not on its own place", p.sceneOf(4, 7), 0);
    due("3 leans not on the place of 1 more", p.sceneOf(5, 7), 0);
    due("3 learns by two", p.sceneOf(3, 5), 13 + 10);
    p.change(3, 4, 1);
    due("3 leans though settled", p.sceneOf(3, 7), 2);
    p.change(3, 3, 4);
    due("3 leans not over two places", p.sceneOf(3, 7), 0);
    p.change(3, 3, 3);
    p.house(0, 0);
    due("3 a sunset's 0 at least comes ahead of what it leans on", p.sceneOf(3, 5), 10);
    p.place(3, 1, 9);
    due("3 noise", p.sceneOf(3, 5), 1);
    p.change(1, 4, 0);
    due("3 noise, 0 at least", p.sceneOf(3, 5), 0);
    due("3 leans in place 0", leansInPlace0(), 0);
  }

  private static int leansInPlace0() {
    PlayedTruth p = new PlayedTruth();
    p.scene(1, 70, 0, 0);
    p.scene(1, 70, 0, 5);
    p.change(0, 4, 1);
    p.change(1, 4, 1);
    return p.sceneOf(0, 7);
  }

  private static int draws(int kind, int truth, int pretty, int light) {
    PlayedTruth p = new PlayedTruth();
    p.scene(1, 0, 0, 0);
    p.scene(1, 0, 0, 0);
    p.scene(kind, truth, pretty, 4);
    p.place(4, 0, light);
    return p.sceneOf(2, 6);
  }

  private static void sceneOfDraws() {
    due("3 trial", draws(1, 99, 9, 0), 9);
    due("3 trial in light", draws(1, 0, 0, 7), 16);
    due("3 duet", draws(2, 0, 0, 0), 10);
    due("3 duet pretty", draws(2, 8, 9, 0), 28);
    due("3 duet a ninth", draws(2, 9, 9, 0), 27);
    due("3 duet 0 at least", draws(2, 99, 0, 0), 0);
    due("3 duet 0 at least in light", draws(2, 99, 0, 3), 3);
    due("3 sunset", draws(3, 44, 5, 0), 32);
    due("3 sunset in light", draws(3, 44, 5, 9), 41);
    due("3 crowd", draws(4, 0, 3, 0), 6);
    due("3 crowd true", draws(4, 99, 9, 1), 5);
    due("3 match", draws(5, 0, 3, 0), 8);
    due("3 match so true", draws(5, 99, 0, 2), 4);
  }

  private static void sceneOfWill() {
    PlayedTruth p = new PlayedTruth();
    p.scene(1, 30, 2, 0);
    p.scene(5, 30, 2, 1);
    due("3 will without rules", p.sceneOf(0, 9), 0);
    due("3 may", p.sceneOf(0, 8), 1);
    due("3 rules", Check.tell(p, "crowd keep; trial if night = 0 trim;"), 2);
    due("3 will of a rule above it", p.sceneOf(1, 9), 1);
    due("3 will to trim", p.sceneOf(0, 9), 2);
    due("3 may not: trim", p.sceneOf(0, 8), 0);
    due("3 may not: keep", p.sceneOf(1, 8), 0);
    p.night();
    due("3 no rule any more", p.sceneOf(0, 9), 0);
    due("3 may again", p.sceneOf(0, 8), 1);
    p.change(0, 4, 1);
    due("3 may not: settled", p.sceneOf(0, 8), 0);
    due("3 will though settled", p.sceneOf(0, 9), 0);
    p.change(0, 4, 0);
    p.house(1, 3);
    p.change(0, 1, 9);
    due("3 may not: learns nothing", p.sceneOf(0, 8), 0);
  }

  private static void change() {
    PlayedTruth p = new PlayedTruth();
    p.scene(2, 30, 4, 1);
    p.scene(4, 10, 3, 2);
    due("4 truth", p.change(0, 1, 99), 30);
    due("4 truth again", p.change(0, 1, 0), 99);
    due("4 pretty", p.change(0, 2, 9), 4);
    due("4 pretty again", p.change(0, 2, 0), 9);
    due("4 place", p.change(0, 3, 5), 1);
    due("4 place again", p.change(0, 3, 0), 5);
    due("4 settled", p.change(0, 4, 1), 0);
    due("4 settled still", p.change(0, 4, 1), 1);
    due("4 settled no more", p.change(0, 4, 0), 1);
    due("4 not so", p.change(0, 4, 0), 0);
    p.change(1, 4, 1);
    due("4 the other is settled alone", p.state(4), 2);
    due("4 truth alone settles none", p.change(0, 1, 99), 0);
    due("4 truth alone settles none", p.sceneOf(0, 4), 0);
    String before = Check.look(p);
    int[][] wrongs = {{0, 1, 100}, {0, 1, -1}, {0, 2, 10}, {0, 2, -1}, {0, 3, 6}, {0, 3, -1}, {0, 4, 2}, {0, 4, -1},
        {0, 0, 1}, {0, 5, 1}, {0, -1, 1}, {2, 1, 1}, {-1, 1, 1}, {0, 1, 1 << 31}, {1 << 31, 1, 1}, {0, 1 << 31, 1}};
    for (int[] w : wrongs) due("4 wrong", p.change(w[0], w[1], w[2]), BAD);
    Check.same("4 BAD", before, Check.look(p));
  }

  private static void remake() {
    PlayedTruth p = new PlayedTruth();
    p.scene(2, 50, 4, 1);
    p.change(0, 4, 1);
    due("5 remake", p.remake(0, 3), 2);
    due("5 kind", p.sceneOf(0, 0), 3);
    due("5 truth stays", p.sceneOf(0, 1), 50);
    due("5 pretty stays", p.sceneOf(0, 2), 4);
    due("5 place stays", p.sceneOf(0, 3), 1);
    due("5 settled stays", p.sceneOf(0, 4), 1);
    due("5 draws as its new kind", p.sceneOf(0, 6), 2 * (10 + 4 - 5 + 4));
    due("5 remake again", p.remake(0, 5), 3);
    due("5 kind 0", p.remake(0, 0), BAD);
    due("5 kind 6", p.remake(0, 6), BAD);
    due("5 scene 1", p.remake(1, 1), BAD);
    due("5 scene -1", p.remake(-1, 1), BAD);
    for (int v : Check.FAR) {
      due("5 far", p.remake(v, 1), BAD);
      due("5 far", p.remake(0, v), BAD);
    }
    due("5 kind is as it was", p.sceneOf(0, 0), 5);
  }

  private static void house() {
    PlayedTruth p = new PlayedTruth();
    p.scene(1, 0, 0, 0);
    due("6 house", p.house(0, 15), 9);
    due("6 house now", p.state(5), 15);
    due("6 rail", p.sceneOf(0, 5), 24);
    due("6 house 15", p.house(15, 0), 9);
    due("6 again", p.house(15, 4), 0);
    due("6 night 16", p.house(16, 0), BAD);
    due("6 night -1", p.house(-1, 0), BAD);
    due("6 v 16", p.house(0, 16), BAD);
    due("6 v -1", p.house(0, -1), BAD);
    for (int v : Check.FAR) {
      due("6 far", p.house(v, 1), BAD);
      due("6 far", p.house(1, v), BAD);
    }
    due("6 stays", p.house(0, 0), 15);
  }

  private static void place() {
    PlayedTruth p = new PlayedTruth();
    due("7 light", p.place(5, 0, 9), 0);
    due("7 noise", p.place(5, 1, 8), 0);
    due("8 light", p.placeOf(5, 0), 9);
    due("8 noise", p.placeOf(5, 1), 8);
    due("8 another place", p.placeOf(4, 0), 0);
    due("7 light again", p.place(5, 0, 0), 9);
    due("7 noise again", p.place(5, 1, 1), 8);
    int[][] wrongs = {{6, 0, 0}, {-1, 0, 0}, {0, 2, 0}, {0, -1, 0}, {0, 0, 10}, {0, 1, 10}, {0, 0, -1}, {0, 1, -1},
        {1 << 31, 0, 0}, {0, 1 << 31, 0}, {0, 0, 1 << 31}};
    for (int[] w : wrongs) due("7 wrong", p.place(w[0], w[1], w[2]), BAD);
    due("8 place 6", p.placeOf(6, 0), BAD);
    due("8 place -1", p.placeOf(-1, 0), BAD);
    due("8 what 2", p.placeOf(0, 2), BAD);
    due("8 what -1", p.placeOf(0, -1), BAD);
    due("8 stays", p.placeOf(0, 0), 0);
  }

  private static void ends() {
    PlayedTruth p = new PlayedTruth();
    due("9 ends 16", p.ends(16), 12);
    due("9 ends 1", p.ends(1), 16);
    due("9 ends 0", p.ends(0), BAD);
    due("9 ends 17", p.ends(17), BAD);
    p.ends(5);
    p.night();
    p.night();
    p.night();
    due("9 below night", p.ends(2), STATE);
    due("9 BAD is named ahead", p.ends(0), BAD);
    due("9 end stays", p.state(1), 5);
    due("9 as night", p.ends(3), 5);
    due("9 over", p.state(3), 1);
    due("9 goes on", p.ends(4), 3);
    due("9 not over", p.state(3), 0);
  }

  private static void anew() {
    PlayedTruth p = new PlayedTruth();
    p.scene(1, 40, 3, 0);
    p.scene(2, 20, 3, 1);
    p.house(0, 4);
    p.place(1, 0, 2);
    p.seed(44);
    Check.tell(p, "match keep;");
    p.ends(9);
    p.report(1, 0, 0, 5);
    p.night();
    due("10 is not settled yet", p.state(4), 0);
    p.night();
    due("10 is settled", p.state(4), 1);
    int truth = p.sceneOf(0, 1);
    due("10 anew", p.anew(), 2);
    due("10 night", p.state(0), 0);
    due("10 score", p.state(2), 0);
    due("10 none settled", p.state(4), 0);
    due("10 truth stays", p.sceneOf(0, 1), truth);
    due("10 faded truth stays", p.sceneOf(1, 1), 18);
    due("10 pretty stays", p.sceneOf(0, 2), 3);
    due("10 end stays", p.state(1), 9);
    due("10 house stays", p.house(0, 4), 4);
    due("10 light stays", p.placeOf(1, 0), 2);
    due("10 rules stay", p.many(1), 1);
    due("10 reports stay", p.many(3), 1);
    due("10 z stays", p.seed(44), 44);
    due("10 anew at once", p.anew(), 0);
  }

  private static void state() {
    PlayedTruth p = new PlayedTruth();
    p.scene(1, 59, 3, 0);
    p.scene(2, 20, 3, 1);
    p.scene(4, 99, 3, 1);
    due("11 truth of all", p.state(6), 178);
    p.change(2, 4, 1);
    due("11 settled", p.state(4), 4);
    due("11 house", p.state(5), 9);
    // The trial learns 16 + 5; 9, 10 + 3 - 2 + 3, (10 + 3 - 11) / 2 are drawn then.
    due("11 night", p.night(), 21 + 9 + 14 + 1);
    due("11 score", p.state(2), 45);
    due("11 night 1", p.state(0), 1);
    due("11 settled two", p.state(4), 5);
    due("11 truth of all, one fades", p.state(6), 80 + 19 + 99);
    due("11 not over", p.state(3), 0);
    due("11 what 7", p.state(7), BAD);
    due("11 what -1", p.state(-1), BAD);
    for (int v : Check.FAR) due("11 far", p.state(v), BAD);
    p.ends(16);
    for (int i = 1; i < 16; i++) p.night();
    due("11 night 16", p.state(0), 16);
    due("11 no house behind night 15", p.state(5), 0);
    due("11 over", p.state(3), 1);
  }

  private static void refusalsChangeNothing() {
    PlayedTruth p = new PlayedTruth();
    for (int k = 0; k < 6; k++) p.scene(1 + k % 5, 9 * k, k, k);
    String before = Check.look(p);
    p.scene(1, 1, 1, 1);
    p.scene(9, 1, 1, 1);
    p.remake(0, 9);
    p.house(0, 99);
    p.place(0, 0, 99);
    p.ends(99);
    p.sceneOf(9, 9);
    Check.same("refusals of 2 to 9", before, Check.look(p));
  }
}
