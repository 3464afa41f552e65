/** Promises 41 to 52: sheets, shelves, acts, what is kept. */
public final class HostTest {
  private static final int BAD = Check.BAD, STATE = Check.STATE, NONE = Check.NONE;
  private static final int NOTHING = Check.NOTHING, OUTSIDE = Check.OUTSIDE, SORT = Check.SORT, SIZE = Check.SIZE;
  private static final int PARTED = Check.PARTED;

  public static void main(String[] args) {
    sheet();
    write();
    item();
    goAll();
    goAllEdges();
    wouldBe();
    shelf();
    shelfByNumber();
    rowsOnShelves();
    taken();
    actsByHand();
    partedBy0();
    noAct();
    trace();
    many();
    keep();
    keepsAll();
    Check.end("HostTest");
  }

  private static void due(String call, int got, int want) {
    Check.due(call, got, want);
  }

  private static void sheet() {
    PlayedTruth p = new PlayedTruth();
    for (int sort = 0; sort <= 4; sort++) {
      due("41 sheet", p.sheet(3, sort, 40), 1);
      due("41 all 0", p.item(3, sort, 0), 0);
      due("41 all 0", p.item(3, sort, 39), 0);
      due("41 forty", p.item(3, sort, 40), OUTSIDE);
      p.write(3, 39, 1);
      due("41 empty", p.sheet(3, sort, 0), 1);
      due("41 empty", p.item(3, sort, 0), OUTSIDE);
      due("41 anew", p.sheet(3, sort, 40), 1);
      due("41 all 0 anew", p.item(3, sort, 39), 0);
    }
    due("41 missing", p.sheet(3, -1, -99), 1);
    due("41 missing", p.item(3, 0, 0), NOTHING);
    due("41 missing, whatever n", p.sheet(3, -1, 99), 1);
    p.sheet(0, 0, 3);
    p.write(0, 2, 77);
    due("41 sheet 4", p.sheet(4, 0, 0), BAD);
    due("41 sheet -1", p.sheet(-1, 0, 0), BAD);
    due("41 sort 5", p.sheet(0, 5, 0), BAD);
    due("41 sort -2", p.sheet(0, -2, 0), BAD);
    due("41 n 41", p.sheet(0, 0, 41), BAD);
    due("41 n -1", p.sheet(0, 0, -1), SIZE);
    due("41 BAD is named ahead", p.sheet(0, 5, -1), BAD);
    due("41 BAD is named ahead", p.sheet(4, 0, -1), BAD);
    due("41 far", p.sheet(0, 0, Integer.MIN_VALUE), SIZE);
    due("41 far", p.sheet(0, 0, Integer.MAX_VALUE), BAD);
    due("41 missing, no such sheet", p.sheet(4, -1, 0), BAD);
    due("41 stays", p.item(0, 0, 2), 77);
  }

  private static void write() {
    PlayedTruth p = new PlayedTruth();
    int[] values = {0, 1, -1, 127, 128, 255, 256, 300, -129, 32768, 65536, 65535, Integer.MAX_VALUE, Integer.MIN_VALUE};
    for (int sort = 0; sort <= 4; sort++) p.sheet(sort % 4, sort, 2);
    p.sheet(0, 0, 2);
    for (int v : values) {
      due("42 bytes", p.write(0, 1, v), 1);
      due("42 bytes", p.item(0, 0, 1), (byte) v);
      p.write(1, 1, v);
      due("42 shorts", p.item(1, 1, 1), (short) v);
      p.write(2, 1, v);
      due("42 ints", p.item(2, 2, 1), v);
      p.write(3, 1, v);
      due("42 longs", p.item(3, 3, 1), v);
      due("42 the other item stays", p.item(0, 0, 0), 0);
    }
    p.sheet(3, 4, 1);
    for (int v : values) {
      p.write(3, 0, v);
      due("42 booleans", p.item(3, 4, 0), v != 0 ? 1 : 0);
    }
    due("42 sheet 4", p.write(4, 0, 0), BAD);
    due("42 sheet -1", p.write(-1, 0, 0), BAD);
    due("42 item -1", p.write(0, -1, 0), OUTSIDE);
    due("42 item 2", p.write(0, 2, 0), OUTSIDE);
    for (int v : Check.FAR) due("42 far", p.write(0, v, 0), OUTSIDE);
    p.sheet(0, -1, 0);
    due("42 missing", p.write(0, 0, 0), NOTHING);
    due("42 missing is named ahead", p.write(0, -1, 0), NOTHING);
  }

  private static void item() {
    PlayedTruth p = new PlayedTruth();
    p.sheet(1, 2, 3);
    for (int sort = 0; sort <= 4; sort++) {
      due("43 sort", p.item(1, sort, 0), sort == 2 ? 0 : SORT);
      due("43 sort is named ahead of a place outside", p.item(1, sort, 9), sort == 2 ? OUTSIDE : SORT);
      due("43 missing", p.item(2, sort, 0), NOTHING);
      due("43 missing is named ahead", p.item(2, sort, -1), NOTHING);
    }
    due("43 sort 5", p.item(1, 5, 0), BAD);
    due("43 sort -1", p.item(1, -1, 0), BAD);
    due("43 sort -1 of a missing one", p.item(2, -1, 0), BAD);
    due("43 sheet 4", p.item(4, 0, 0), BAD);
    due("43 sheet -1", p.item(-1, 0, 0), BAD);
    due("43 item 3", p.item(1, 2, 3), OUTSIDE);
    due("43 item -1", p.item(1, 2, -1), OUTSIDE);
    p.write(1, 2, -12);
    due("43 as low as that, too", p.item(1, 2, 2), -12);
  }

  private static void fill(PlayedTruth p, int sheet, int... items) {
    p.sheet(sheet, 0, items.length);
    for (int i = 0; i < items.length; i++) p.write(sheet, i, items[i]);
  }

  private static void goAll() {
    PlayedTruth p = new PlayedTruth();
    p.scene(1, 0, 0, 0);
    p.scene(4, 0, 0, 0);
    fill(p, 0, 1, 3, -1, 2, 0, 127);
    // 16 + 9 + 5; then 14 + 9 + 4 (14 true); then none is told: 9 and 4.
    due("44 all", p.goAll(0, 0, 6), 30 + 27 + 13);
    due("44 three nights", p.state(0), 3);
    due("44 score", p.state(2), 70);
    due("44 truth", p.sceneOf(0, 1), 13);
    due("44 truth", p.sceneOf(1, 1), 12);
    due("44 none", p.goAll(0, 0, 0), 0);
    due("44 none, from anywhere", p.goAll(0, 99, 0), 0);
    due("44 from item 4 on", p.goAll(0, 4, 2), 13);
    p.ends(5);
    due("44 over behind one", p.goAll(0, 3, 2), 14 + 9 + 4);
    due("44 over", p.state(0), 5);
    due("44 over: all left out", p.goAll(0, 0, 6), 0);
    due("44 over: still outside", p.goAll(0, 0, 7), OUTSIDE);
  }

  private static void goAllEdges() {
    PlayedTruth p = new PlayedTruth();
    p.scene(1, 0, 0, 0);
    fill(p, 0, 0, 1);
    due("44 outside", p.goAll(0, 1, 2), OUTSIDE);
    due("44 what stood ahead was done", p.state(0), 1);
    due("44 what stood ahead was done", p.sceneOf(0, 1), 15);
    due("44 outside at once", p.goAll(0, -1, 2), OUTSIDE);
    due("44 outside at once", p.goAll(0, 2, 1), OUTSIDE);
    due("44 outside at once", p.goAll(0, Integer.MAX_VALUE, 20), OUTSIDE);
    due("44 outside at once", p.goAll(0, Integer.MIN_VALUE, 20), OUTSIDE);
    due("44 nothing was done", p.state(0), 1);
    due("44 n -1", p.goAll(0, 0, -1), BAD);
    due("44 n 21", p.goAll(0, 0, 21), BAD);
    due("44 sheet 4", p.goAll(4, 0, 0), BAD);
    due("44 sheet -1", p.goAll(-1, 0, 0), BAD);
    due("44 missing", p.goAll(1, 0, 0), NOTHING);
    due("44 BAD is named ahead", p.goAll(1, 0, 21), BAD);
    for (int sort = 1; sort <= 4; sort++) {
      p.sheet(1, sort, 3);
      due("44 not bytes", p.goAll(1, 0, 1), SORT);
      due("44 not bytes, ahead of outside", p.goAll(1, 9, 1), SORT);
      due("44 not bytes, though none is asked", p.goAll(1, 0, 0), SORT);
    }
    p.sheet(1, 0, 20);
    p.ends(16);
    due("44 twenty items, 15 nights", p.goAll(1, 0, 20), 15 * 9);
    due("44 night 16", p.state(0), 16);
  }

  private static void wouldBe() {
    PlayedTruth p = new PlayedTruth();
    p.scene(1, 0, 0, 0);
    p.scene(4, 0, 0, 0);
    fill(p, 0, 1, 2, 0, 3, 0, -1);
    String before = Check.look(p);
    due("45 three", p.wouldBe(0, 0, 3), 30 + 27 + 13);
    due("45 none", p.wouldBe(0, 0, 0), 0);
    due("45 none, from anywhere", p.wouldBe(0, -9, 0), 0);
    due("45 no act", p.wouldBe(0, 0, 4), STATE);
    due("45 no act ahead of outside", p.wouldBe(0, 0, 7), STATE);
    due("45 no act below 0", p.wouldBe(0, 5, 1), STATE);
    due("45 outside", p.wouldBe(0, 6, 1), OUTSIDE);
    due("45 outside", p.wouldBe(0, -1, 1), OUTSIDE);
    due("45 outside", p.wouldBe(0, Integer.MAX_VALUE, 2), OUTSIDE);
    due("45 n 21", p.wouldBe(0, 0, 21), BAD);
    due("45 n -1", p.wouldBe(0, 0, -1), BAD);
    due("45 sheet 4", p.wouldBe(4, 0, 1), BAD);
    due("45 sheet -1", p.wouldBe(-1, 0, 1), BAD);
    due("45 missing", p.wouldBe(1, 0, 0), NOTHING);
    Check.same("45", before, Check.look(p));
    p.sheet(1, 2, 1);
    due("45 not bytes", p.wouldBe(1, 0, 0), SORT);
    p.ends(2);
    due("45 two nights", p.wouldBe(0, 0, 2), 57);
    due("45 over ahead of the third", p.wouldBe(0, 0, 3), STATE);
    fill(p, 2, 0, 0);
    due("45 outside ahead of over", p.wouldBe(2, 0, 3), OUTSIDE);
    p.night();
    p.night();
    due("45 over, none asked", p.wouldBe(0, 0, 0), 0);
    due("45 over", p.wouldBe(0, 0, 1), STATE);
  }

  private static void shelf() {
    PlayedTruth p = new PlayedTruth();
    p.scene(3, 0, 0, 2);
    due("46 scene", p.shelf(0, 0, 0), 1);
    due("46 scene", p.taken(0, 3), 0);
    due("46 missing row", p.shelf(0, 1, 0), 1);
    due("46 is nothing", p.taken(0, 3), NOTHING);
    p.shelf(0, 0, 0);
    due("46 nothing, whatever n", p.shelf(0, 2, -77), 1);
    due("46 nothing", p.taken(0, 3), NOTHING);
    p.shelf(0, 0, 0);
    due("46 shelf 4", p.shelf(4, 0, 0), BAD);
    due("46 shelf -1", p.shelf(-1, 2, 0), BAD);
    due("46 what 3", p.shelf(0, 3, 0), BAD);
    due("46 what -1", p.shelf(0, -1, 0), BAD);
    due("46 scene 1", p.shelf(0, 0, 1), BAD);
    due("46 scene -1", p.shelf(0, 0, -1), BAD);
    due("46 sheet 4", p.shelf(0, 1, 4), BAD);
    due("46 sheet -1", p.shelf(0, 1, -1), BAD);
    due("46 stays", p.taken(0, 3), 0);
    due("46 the others hold nothing", p.taken(1, 3), NOTHING);
  }

  private static void shelfByNumber() {
    PlayedTruth p = new PlayedTruth();
    p.scene(1, 0, 0, 0);
    p.keep();
    p.scene(2, 0, 0, 4);
    p.shelf(2, 0, 1);
    due("47 a duet", p.taken(2, 2), 1);
    p.remake(1, 5);
    due("47 a match now", p.taken(2, 2), SORT);
    due("47 a match now", p.taken(2, 4), 1);
    due("48 as a match", p.act(2, 1, 3), 0 - (18 + 1 - 4));
    p.change(1, 3, 1);
    due("48 in its place now", p.act(2, 1, 3), 0 - (18 + 1 - 1));
    p.again();
    due("47 gone", p.taken(2, 4), NOTHING);
    due("48 gone", p.act(2, 1, 3), 0);
    due("49 no trace", p.trace(0), NONE);
    p.scene(4, 0, 0, 0);
    due("47 there again", p.taken(2, 4), 1);
    due("47 another kind", p.taken(2, 5), SORT);
  }

  private static void rowsOnShelves() {
    PlayedTruth p = new PlayedTruth();
    p.sheet(1, 3, 7);
    due("46 row", p.shelf(0, 1, 1), 1);
    due("47 longs", p.taken(0, 13), 7);
    for (int as = 0; as <= 5; as++) due("47 no scene", p.taken(0, as), SORT);
    for (int as = 10; as <= 14; as++) due("47 sorts", p.taken(0, as), as == 13 ? 7 : SORT);
    p.sheet(1, 0, 2);
    due("47 the row that it had", p.taken(0, 13), 7);
    p.sheet(1, -1, 0);
    due("47 the row that it had", p.taken(0, 13), 7);
    due("48 a row has no acts", p.act(0, 0, 5), 0);
    p.sheet(2, 4, 0);
    p.shelf(0, 1, 2);
    due("47 an empty row", p.taken(0, 14), 0);
  }

  private static void taken() {
    PlayedTruth p = new PlayedTruth();
    for (int kind = 1; kind <= 5; kind++) p.scene(kind, 0, 0, 0);
    int[][] under = {{1, 1, 0, 0, 0, 0}, {1, 0, 1, 0, 0, 0}, {1, 0, 1, 1, 0, 0}, {1, 0, 0, 0, 1, 0}, {1, 0, 0, 0, 1, 1}};
    for (int k = 0; k < 5; k++) {
      p.shelf(3, 0, k);
      for (int as = 0; as <= 5; as++) due("47 kinds", p.taken(3, as), under[k][as] == 1 ? k : SORT);
      for (int as = 10; as <= 14; as++) due("47 no row", p.taken(3, as), SORT);
    }
    int[] wrongs = {-1, 6, 7, 8, 9, 15, Integer.MIN_VALUE, Integer.MAX_VALUE};
    for (int as : wrongs) {
      due("47 as", p.taken(3, as), BAD);
      due("47 as, of nothing", p.taken(0, as), BAD);
    }
    for (int as = 0; as <= 5; as++) due("47 nothing", p.taken(0, as), NOTHING);
    for (int as = 10; as <= 14; as++) due("47 nothing", p.taken(0, as), NOTHING);
    due("47 shelf 4", p.taken(4, 0), BAD);
    due("47 shelf -1", p.taken(-1, 0), BAD);
  }

  /** One of a kind with number n in place a, on shelf 0. */
  private static PlayedTruth one(int kind, int n, int a) {
    PlayedTruth p = new PlayedTruth();
    for (int i = 0; i < n; i++) p.scene(1, 0, 0, 0);
    p.scene(kind, 0, 0, a);
    p.shelf(0, 0, n);
    return p;
  }

  private static void acts(PlayedTruth p, int act, int x, int want, int... bodies) {
    due("48 act " + act, p.act(0, act, x), want);
    due("50 bodies", p.many(6), bodies.length);
    for (int i = 0; i < bodies.length; i++) due("49 body " + i, p.trace(i), bodies[i]);
    due("49 no more", p.trace(bodies.length), NONE);
    due("49 -1", p.trace(-1), NONE);
  }

  private static void actsByHand() {
    PlayedTruth trial = one(1, 2, 4);
    acts(trial, 0, 7, 44 ^ 10, 20, 10);
    acts(trial, 1, 7, (44 ^ 10) - 4, 11, 20, 10);
    acts(trial, 2, 7, 2, 12);
    acts(trial, 2, -7, -2, 12);
    acts(trial, 3, 7, (44 ^ 10) - 4 + 2, 13, 11, 20, 10, 12);
    PlayedTruth duet = one(2, 5, 1);
    acts(duet, 0, 7, 47, 10);
    acts(duet, 1, 7, 92, 30, 11, 10);
    acts(duet, 2, 7, 2, 12);
    acts(duet, 3, 7, 94, 13, 30, 11, 10, 12);
    PlayedTruth sunset = one(3, 1, 5);
    acts(sunset, 0, 7, 85, 50, 10);
    acts(sunset, 1, 7, 160, 30, 11, 50, 10);
    acts(sunset, 2, 7, 2, 12);
    // speaks(7) + halves(7) - speaks(5).
    acts(sunset, 3, 7, 160 + 2 - 2 * (73 - 5), 51, 13, 30, 11, 50, 10, 12, 30, 11, 50, 10);
    PlayedTruth crowd = one(4, 0, 5);
    acts(crowd, 0, 7, 42, 10);
    acts(crowd, 1, 7, 37, 11, 10);
    acts(crowd, 2, 7, 9, 40, 12);
    acts(crowd, 3, 7, 46, 13, 11, 10, 40, 12);
    PlayedTruth match = one(5, 4, 1);
    acts(match, 0, 7, 46, 10);
    acts(match, 1, 7, -45, 60, 11, 10);
    acts(match, 2, 7, 9 ^ 28, 61, 40, 12, 10);
    acts(match, 3, 7, -45 + (9 ^ 28), 13, 60, 11, 10, 61, 40, 12, 10);
    acts(match, 0, Integer.MAX_VALUE, Integer.MAX_VALUE * 6 + 4, 10);
    PlayedTruth minus = one(4, 2, 0);
    acts(minus, 2, Integer.MIN_VALUE, Integer.MIN_VALUE + 6, 40, 12);
    PlayedTruth least = one(4, 0, 0);
    acts(least, 2, 10, 3, 40, 12);
    acts(least, 2, -10, 9, 40, 12);
  }

  private static void partedBy0() {
    PlayedTruth trial = one(1, 0, 3);
    acts(trial, 0, 1, 12, 20, 10);
    acts(trial, 2, 1, PARTED, 12);
    acts(trial, 3, 1, PARTED, 13, 11, 20, 10, 12);
    acts(trial, 1, 1, 9, 11, 20, 10);
    PlayedTruth crowd = one(4, 2, 1);
    acts(crowd, 2, 0, PARTED, 40, 12);
    PlayedTruth sunset = one(3, 1, 2);
    acts(sunset, 3, 9, PARTED, 51, 13, 30, 11, 50, 10, 12);
    PlayedTruth match = one(5, 3, 0);
    acts(match, 2, 9, PARTED, 61, 40, 12);
    acts(match, 3, 9, PARTED, 13, 60, 11, 10, 61, 40, 12);
    acts(match, 0, 9, 57, 10);
  }

  private static void noAct() {
    PlayedTruth p = one(1, 0, 0);
    int[][] wrongs = {{4, 0}, {-1, 0}, {0, 4}, {0, -1}, {1, 0}, {1 << 31, 0}, {0, 1 << 31}};
    for (int[] w : wrongs) {
      acts(p, 0, 1, 6 ^ 10, 20, 10);
      due("48 none such", p.act(w[0], w[1], 5), 0);
      due("48 no trace then", p.many(6), 0);
      due("49 no trace then", p.trace(0), NONE);
    }
  }

  private static void trace() {
    PlayedTruth p = one(1, 0, 0);
    for (int v : Check.FAR) due("49 far", p.trace(v), NONE);
    p.act(0, 1, 1);
    p.night();
    due("49 stays while nights go by", p.trace(2), 10);
    for (int v : Check.FAR) due("49 far", p.trace(v), NONE);
  }

  private static void many() {
    PlayedTruth p = one(1, 3, 1);
    p.change(0, 4, 1);
    p.change(3, 4, 1);
    Check.tell(p, "duet keep;duet keep;duet keep;");
    for (int i = 0; i < 5; i++) p.report(1, 0, 0, 9);
    p.prove(1);
    p.feed(0, 6);
    p.act(0, 3, 1);
    int[] want = {4, 3, 2, 5, 1, 6, 5};
    for (int what = 0; what < 7; what++) due("50 many " + what, p.many(what), want[what]);
    due("50 what 7", p.many(7), BAD);
    due("50 what -1", p.many(-1), BAD);
    for (int v : Check.FAR) due("50 far", p.many(v), BAD);
  }

  private static void keep() {
    PlayedTruth p = new PlayedTruth();
    due("52 nothing is kept", p.again(), NONE);
    due("51 keep", p.keep(), 1);
    p.scene(1, 0, 0, 0);
    due("52 as it was", p.again(), 0);
    due("52 as it was", p.many(0), 0);
    p.scene(2, 33, 4, 1);
    p.scene(2, 33, 4, 1);
    p.keep();
    p.change(1, 1, 7);
    due("52 the latest", p.again(), 2);
    due("52 the latest", p.sceneOf(1, 1), 33);
    p.change(1, 1, 7);
    p.night();
    due("52 which stays", p.again(), 2);
    due("52 which stays", p.sceneOf(1, 1), 33);
    due("52 which stays", p.state(0), 0);
  }

  private static void keepsAll() {
    PlayedTruth p = new PlayedTruth();
    p.scene(1, 50, 3, 1);
    p.scene(4, 20, 3, 2);
    p.place(1, 0, 4);
    p.place(2, 1, 3);
    p.house(5, 2);
    Check.tell(p, "crowd if truth > 60 trim;");
    p.report(2, 0, 10, 20);
    p.seed(17);
    p.ends(9);
    p.night();
    p.prove(2);
    String before = Check.look(p);
    p.keep();
    p.remake(0, 3);
    p.change(0, 2, 9);
    p.change(1, 3, 0);
    p.change(1, 4, 1);
    p.scene(5, 1, 1, 1);
    p.place(1, 0, 0);
    p.place(2, 1, 0);
    p.house(5, 15);
    Check.tell(p, "scene keep; scene trim;");
    p.report(2, 0, 10, 20);
    p.report(2, 0, 10, 21);
    p.seed(4);
    p.ends(11);
    p.lot();
    due("52 again", p.again(), 2);
    Check.same("52 again", before, Check.look(p));
    due("52 house", p.house(5, 2), 2);
    due("52 z", p.seed(17), 17);
    due("52 reports", p.many(3), 1);
    due("52 a new scene is not settled", p.scene(5, 1, 1, 1), 2);
    due("52 a new scene is not settled", p.sceneOf(2, 4), 0);
    p.again();
    p.change(1, 1, 61);
    due("52 rules", p.sceneOf(1, 9), 2);
    // What is not kept stays as it is.
    p.feed(0, 3);
    p.prove(1);
    p.alterRow(0, 1, 9999);
    fill(p, 2, 5, 6);
    p.shelf(1, 1, 2);
    p.shelf(0, 0, 1);
    p.act(0, 1, 4);
    p.again();
    due("52 tape", p.many(5), 3);
    due("52 rows", p.row(0, 1), 9999);
    due("52 sheets", p.item(2, 0, 1), 6);
    due("52 shelves", p.taken(1, 10), 2);
    due("52 shelves", p.taken(0, 4), 1);
    due("52 trace", p.many(6), 2);
  }
}
