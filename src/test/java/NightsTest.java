/** Promises 14 to 22: nights, and what is asked of those to come. */
public final class NightsTest {
  private static final int BAD = Check.BAD, STATE = Check.STATE, NONE = Check.NONE;

  public static void main(String[] args) {
    nightMends();
    nightTells();
    nightTrims();
    nightEdges();
    on();
    when();
    prettyFor();
    placeFor();
    truth();
    props();
    strands();
    billing();
    askingChangesNothing();
    Check.end("NightsTest");
  }

  private static void due(String call, int got, int want) {
    Check.due(call, got, want);
  }

  private static void nightMends() {
    PlayedTruth p = new PlayedTruth();
    p.scene(4, 30, 4, 1);
    p.scene(2, 1, 0, 2);
    // The crowd learns 14: 44; it draws (14 - 4) / 2, the duet 10; then both fade.
    due("14 worth", p.night(), 14 + 5 + 10);
    due("14 truth", p.sceneOf(0, 1), 43);
    due("14 fades", p.sceneOf(1, 1), 0);
    due("14 night", p.state(0), 1);
    // 57: it draws (14 - 6) / 2.
    due("14 worth", p.night(), 14 + 4 + 10);
    due("14 truth", p.sceneOf(0, 1), 56);
    due("14 fades, 0 at least", p.sceneOf(1, 1), 0);
    // 70, settled: it draws (14 - 7) / 2, and doesn't fade.
    due("14 worth", p.night(), 14 + 3 + 10);
    due("14 settled", p.sceneOf(0, 4), 1);
    due("14 stays", p.sceneOf(0, 1), 70);
    // The duet leans on it: 16 + 5.
    due("14 leans", p.night(), 21 + 3 + 8);
    due("14 truth of the next", p.sceneOf(1, 1), 20);
    due("14 stays still", p.sceneOf(0, 1), 70);
    due("14 score", p.state(2), 29 + 28 + 27 + 32);
  }

  private static void nightTells() {
    PlayedTruth p = new PlayedTruth();
    p.scene(5, 10, 0, 0);
    p.scene(1, 10, 0, 0);
    p.night();
    due("14 the least is told", p.sceneOf(0, 1), 23);
    due("14 the other isn't", p.sceneOf(1, 1), 9);
    p.night();
    due("14 a match learns nothing in odd nights", p.sceneOf(0, 1), 22);
    due("14 so the next is told", p.sceneOf(1, 1), 24);
    Check.tell(p, "match keep;");
    p.night();
    due("14 whose will is to keep isn't told", p.sceneOf(0, 1), 21);
    due("14 the next is", p.sceneOf(1, 1), 41);
    p.place(0, 1, 9);
    Check.tell(p, "scene trim;");
    due("14 none is told", p.night(), 4 + 9);
    due("14 none is trimmed", p.sceneOf(0, 2), 0);
  }

  private static void nightTrims() {
    PlayedTruth p = new PlayedTruth();
    p.scene(2, 25, 8, 0);
    p.scene(1, 25, 8, 0);
    Check.tell(p, "duet trim; trial keep;");
    p.sheet(0, 0, 4);
    p.write(0, 0, 1);
    p.write(0, 1, 2);
    p.house(0, 3);
    // 9 pretty, 15 true: 2 * 3, 10 + 9 - 1 + 9, and 9 of the trial.
    due("14 trim", p.goAll(0, 0, 1), 6 + 27 + 9);
    due("14 trimmed pretty", p.sceneOf(0, 2), 9);
    due("14 trimmed truth", p.sceneOf(0, 1), 14);
    due("14 trim, 9 at most", p.goAll(0, 0, 1), 2 + 28 + 9);
    due("14 trimmed pretty", p.sceneOf(0, 2), 9);
    due("14 trimmed truth", p.sceneOf(0, 1), 3);
    p.goAll(0, 0, 1);
    due("14 trimmed truth, 0 at least", p.sceneOf(0, 1), 0);
    due("14 keep", p.goAll(0, 1, 1), 28 + 9);
    due("14 kept truth fades", p.sceneOf(1, 1), 21);
    p.change(0, 4, 1);
    p.change(0, 2, 5);
    due("14 settled isn't trimmed", p.goAll(0, 0, 1), 20 + 9);
    due("14 settled isn't trimmed", p.sceneOf(0, 2), 5);
  }

  private static void nightEdges() {
    PlayedTruth p = new PlayedTruth();
    p.scene(1, 90, 0, 0);
    p.scene(1, 44, 0, 1);
    p.house(0, 12);
    due("14 worth is what it learns, though truth is 99 at most", p.night(), 33 + 18);
    due("14 99 at most", p.sceneOf(0, 1), 99);
    due("14 settled", p.state(4), 1);
    p.change(0, 4, 0);
    p.change(0, 1, 59);
    p.house(1, 0);
    p.house(2, 0);
    p.sheet(0, 0, 1);
    p.write(0, 0, 1);
    p.remake(0, 2);
    due("14 learns nothing at 59", p.goAll(0, 0, 1), 0 + 4 + 9);
    due("14 not settled at 59", p.state(4), 0);
    p.change(0, 1, 60);
    due("14 learns nothing at 60", p.goAll(0, 0, 1), 0 + 4 + 9);
    due("14 settled at 60", p.state(4), 1);
    due("14 and stays", p.sceneOf(0, 1), 60);
    p.ends(3);
    String before = Check.look(p);
    due("14 STATE", p.night(), STATE);
    Check.same("14 STATE", before, Check.look(p));
    PlayedTruth q = new PlayedTruth();
    due("14 without scenes", q.night(), 0);
    due("14 without scenes", q.state(0), 1);
  }

  private static PlayedTruth five() {
    PlayedTruth p = new PlayedTruth();
    p.place(0, 0, 1);
    p.place(1, 1, 2);
    p.scene(1, 10, 3, 0);
    p.scene(2, 40, 6, 1);
    p.scene(4, 5, 2, 2);
    return p;
  }

  private static void on() {
    PlayedTruth p = five();
    int sum = 0;
    int[] sums = new int[17];
    for (int n = 0; n <= 16; n++) sums[n] = p.on(n);
    for (int n = 0; n < 12; n++) {
      due("15 on " + n, sums[n], sum);
      sum += p.night();
    }
    for (int n = 12; n <= 16; n++) due("15 no more nights than there are", sums[n], sum);
    due("15 over", p.on(16), 0);
    due("15 over", p.on(0), 0);
    due("15 n -1", p.on(-1), BAD);
    due("15 n 17", p.on(17), BAD);
    for (int v : Check.FAR) due("15 far", p.on(v), BAD);
  }

  private static void when() {
    PlayedTruth p = five();
    int[] nights = {p.when(0), p.when(1), p.when(2)};
    for (int i = 0; i < 12; i++) {
      int was = p.state(4);
      p.night();
      int came = p.state(4) & ~was;
      for (int k = 0; k < 3; k++) {
        if ((came >> k & 1) == 1) {
          due("16 when " + k, nights[k], i);
          nights[k] = NONE;
          due("16 settled now", p.when(k), NONE);
        }
      }
    }
    for (int k = 0; k < 3; k++) due("16 never, or told ahead", nights[k], NONE);
    due("16 no such scene", p.when(3), BAD);
    due("16 scene -1", p.when(-1), BAD);
    PlayedTruth q = new PlayedTruth();
    q.scene(1, 44, 0, 0);
    due("16 in the first night", q.when(0), 0);
    q.ends(1);
    q.change(0, 1, 0);
    due("16 not in time", q.when(0), NONE);
    q.night();
    q.change(0, 1, 59);
    due("16 over", q.when(0), NONE);
  }

  private static void prettyFor() {
    PlayedTruth p = five();
    due("17 a trial is the same with all", p.prettyFor(0), 0);
    due("17 a duet is best with most", p.prettyFor(1), 9);
    due("17 a crowd, by halves: of two as good the least", crowdPretty(), 8);
    due("17 stays", p.sceneOf(1, 2), 6);
    Check.tell(p, "duet if pretty > 3 keep; trial keep; crowd keep;");
    p.ends(1);
    // Mended it is worth 14 more, and draws 2 more for each pretty: 14 + 6 against 18.
    due("17 by the rules", p.prettyFor(1), 3);
    due("17 no such scene", p.prettyFor(3), BAD);
    due("17 scene -1", p.prettyFor(-1), BAD);
    p.night();
    due("17 over: all the same", p.prettyFor(1), 0);
  }

  private static int crowdPretty() {
    PlayedTruth p = new PlayedTruth();
    p.scene(4, 0, 0, 0);
    p.ends(1);
    p.house(0, 0);
    return p.prettyFor(0);
  }

  private static void placeFor() {
    PlayedTruth p = new PlayedTruth();
    p.scene(1, 0, 0, 3);
    due("18 all the same", p.placeFor(0), 0);
    p.place(0, 1, 1);
    due("18 less noise", p.placeFor(0), 1);
    p.place(4, 0, 1);
    due("18 light", p.placeFor(0), 4);
    p.scene(1, 70, 0, 1);
    p.change(1, 4, 1);
    p.ends(1);
    due("18 leans", p.placeFor(0), 2);
    due("18 stays", p.sceneOf(0, 3), 3);
    due("18 no such scene", p.placeFor(2), BAD);
    due("18 scene -1", p.placeFor(-1), BAD);
  }

  private static void truth() {
    PlayedTruth p = five();
    due("19 now", p.truth(0), 0);
    due("19 now", p.truth(55), 0);
    // 17 more, then three are 1 less.
    due("19 then", p.truth(56), 1);
    due("19 then", p.truth(69), 1);
    due("19 later", p.truth(70), 2);
    due("19 never", p.truth(594), NONE);
    due("19 v -1", p.truth(-1), BAD);
    due("19 v 595", p.truth(595), BAD);
    for (int v : Check.FAR) due("19 far", p.truth(v), BAD);
    p.ends(1);
    due("19 as it is over", p.truth(69), 1);
    due("19 not behind that", p.truth(70), NONE);
    p.night();
    due("19 over, and so now", p.truth(69), 1);
    due("19 over, and not so", p.truth(70), NONE);
    PlayedTruth q = new PlayedTruth();
    due("19 without scenes", q.truth(0), 0);
    due("19 without scenes", q.truth(1), NONE);
    for (int i = 0; i < 6; i++) q.scene(1, 99, 0, 0);
    due("19 most", q.truth(594), 0);
  }

  private static void props() {
    PlayedTruth p = new PlayedTruth();
    int[] places = {0, 1, 1, 3, 4, 4};
    for (int f : places) p.scene(1, 0, 0, f);
    int[] sets = {1, 3, 5, 8, 24, 40};
    for (int k = 0; k < 6; k++) due("20 props " + k, p.props(k), sets[k]);
    p.change(3, 3, 2);
    due("20 now there is none in 3", p.props(4), 16);
    due("20 two below", p.props(3), 15);
    p.change(1, 4, 1);
    due("20 settled or not", p.props(3), 15);
    due("20 no such scene", p.props(6), BAD);
    due("20 scene -1", p.props(-1), BAD);
  }

  private static void strands() {
    PlayedTruth p = new PlayedTruth();
    due("21 none", p.strands(-1), 0);
    int[] truths = {10, 13, 16, 20, 90, 94};
    int[] places = {0, 1, 2, 3, 4, 5};
    for (int k = 0; k < 6; k++) p.scene(1, truths[k], 0, places[k]);
    due("21 one by the other", p.strands(0), 7);
    due("21 one by the other", p.strands(2), 7);
    due("21 4 apart", p.strands(3), 8);
    due("21 alone", p.strands(5), 32);
    due("21 how many", p.strands(-1), 4);
    p.change(1, 4, 1);
    due("21 not by one that is settled", p.strands(0), 1);
    due("21 settled", p.strands(1), 0);
    due("21 how many", p.strands(-1), 5);
    p.change(5, 3, 0);
    due("21 by place", p.strands(5), 33);
    p.change(4, 1, 92);
    due("21 by truth and place", p.strands(0), 49);
    due("21 how many", p.strands(-1), 3);
    due("21 what -2", p.strands(-2), BAD);
    due("21 what 6", p.strands(6), BAD);
    for (int v : Check.FAR) due("21 far", p.strands(v), BAD);
    for (int k = 0; k < 6; k++) p.change(k, 4, 1);
    due("21 all settled", p.strands(-1), 0);
    PlayedTruth q = five();
    due("21 no such scene", q.strands(3), BAD);
  }

  private static void billing() {
    PlayedTruth p = new PlayedTruth();
    due("22 nothing is enough for 0", p.billing(0), 0);
    due("22 none", p.billing(1), NONE);
    p.scene(1, 0, 0, 0);
    p.scene(2, 0, 5, 1);
    p.scene(3, 0, 0, 2);
    p.scene(4, 0, 0, 3);
    // They draw 9, 20, 20, 5.
    due("22 0", p.billing(0), 0);
    due("22 the least of three", p.billing(9), 1);
    due("22 the least of two", p.billing(10), 2);
    due("22 just so", p.billing(20), 2);
    due("22 two", p.billing(21), 3);
    due("22 two", p.billing(30), 6);
    due("22 three", p.billing(41), 7);
    due("22 three", p.billing(49), 7);
    due("22 all", p.billing(54), 15);
    due("22 too much", p.billing(55), NONE);
    p.change(0, 4, 1);
    p.place(0, 0, 9);
    due("22 settled or not, in light", p.billing(18), 1);
    due("22 v -1", p.billing(-1), BAD);
    due("22 v 1000", p.billing(1000), BAD);
    due("22 v 999", p.billing(999), NONE);
    for (int v : Check.FAR) due("22 far", p.billing(v), BAD);
  }

  private static void askingChangesNothing() {
    PlayedTruth p = five();
    p.night();
    String before = Check.look(p);
    p.on(16);
    p.when(0);
    p.prettyFor(1);
    p.placeFor(1);
    p.truth(300);
    p.props(1);
    p.strands(1);
    p.billing(30);
    Check.same("15 to 22", before, Check.look(p));
    due("15 to 22: z", p.seed(1), 1);
  }
}
