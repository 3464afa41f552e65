/** The boundary cases of promises 41 to 52: sheets, shelves, acts and their trace, what is kept. */
public final class HostBoundsTest extends Bounds {
  private static final int[] NO_SHEET = {-1, 4, 5, LEAST, MOST};

  public static void main(String[] args) {
    sheetRanges();
    sheetSizes();
    sheetMissing();
    sheetOrder();
    writeNarrowed();
    writeOutside();
    itemOutside();
    itemSorts();
    itemAsLow();
    goAllRanges();
    goAllOutside();
    goAllActs();
    goAllOver();
    wouldBeRanges();
    wouldBeByItems();
    wouldBeOver();
    shelfRanges();
    shelfHolds();
    shelfNothing();
    takenRanges();
    takenKinds();
    takenRows();
    actNone();
    actWraps();
    actParted();
    actByHeldNumbers();
    trace();
    many();
    keep();
    keptAndNot();
    keptReports();
    again();
    end("HostBoundsTest", promises(41, 52));
  }

  /** Bytes on a sheet. */
  private static PlayedTruth fill(PlayedTruth p, int sheet, int... items) {
    due("sheet", p.sheet(sheet, 0, items.length), 1);
    for (int i = 0; i < items.length; i++) due("write", p.write(sheet, i, items[i]), 1);
    return p;
  }

  /** Trials that are kept, each drawing 9 a night. */
  private static PlayedTruth kept(int scenes, int end) {
    PlayedTruth p = new PlayedTruth();
    for (int k = 0; k < scenes; k++) p.scene(1, 50, 0, 0);
    p.ends(end);
    Check.tell(p, "scene keep;");
    return p;
  }

  // ---- sheets

  private static void sheetRanges() {
    says(41, "BAD: no such SHEET, sort, n above 40; -14.");
    for (int sheet : NO_SHEET) {
      refusedEverywhere("sheet(" + sheet + ", 0, 1)", BAD, p -> p.sheet(sheet, 0, 1));
      refusedEverywhere("sheet(" + sheet + ", -1, 0)", BAD, p -> p.sheet(sheet, -1, 0));
    }
    int[] noSort = {-2, 5, 6, LEAST, MOST};
    for (int sort : noSort) refusedEverywhere("sheet(0, " + sort + ", 1)", BAD, p -> p.sheet(0, sort, 1));
    int[] tooMany = {41, 42, MOST};
    int[] below = {-1, -2, LEAST};
    for (int sort = 0; sort <= 4; sort++) {
      int s = sort;
      for (int n : tooMany) refusedEverywhere("sheet(0, " + sort + ", " + n + ")", BAD, p -> p.sheet(0, s, n));
      for (int n : below) refusedEverywhere("sheet(0, " + sort + ", " + n + ")", SIZE, p -> p.sheet(0, s, n));
    }
  }

  private static void sheetSizes() {
    says(41, "A SHEET becomes a row of n of a sort, all 0, or missing (sort -1; n counts nothing then): 1.");
    int[] sizes = {0, 1, 2, 39, 40};
    for (int sheet = 0; sheet < 4; sheet++) {
      for (int sort = 0; sort <= 4; sort++) {
        PlayedTruth p = new PlayedTruth();
        for (int n : sizes) {
          due("sheet(" + sheet + ", " + sort + ", " + n + ")", p.sheet(sheet, sort, n), 1);
          due("the last one", p.item(sheet, sort, n - 1), n == 0 ? OUTSIDE : 0);
          due("one behind", p.item(sheet, sort, n), OUTSIDE);
          due("write the last one", p.write(sheet, n - 1, 1), n == 0 ? OUTSIDE : 1);
        }
        due("forty again", p.sheet(sheet, sort, 40), 1);
        for (int i = 0; i < 40; i++) due("all 0 again, " + i, p.item(sheet, sort, i), 0);
      }
    }
  }

  private static void sheetMissing() {
    says(41, "or missing (sort -1; n counts nothing then): 1.");
    int[] sizes = {0, 1, 40, 41, -1, LEAST, MOST};
    for (int n : sizes) {
      PlayedTruth p = usual();
      due("sheet(0, -1, " + n + ")", p.sheet(0, -1, n), 1);
      due("it is missing", p.item(0, 0, 0), NOTHING);
      due("a missing one", p.sheet(3, -1, n), 1);
      due("the others stay", p.item(1, 2, 2), -12);
    }
  }

  private static void sheetOrder() {
    says(41, "of several the first named: BAD (-1)");
    refusedEverywhere("no such sheet, a size below 0", BAD, p -> p.sheet(4, 0, -1));
    refusedEverywhere("no such sort, a size below 0", BAD, p -> p.sheet(0, 5, -1));
    refusedEverywhere("no such sort below, a size below 0", BAD, p -> p.sheet(0, -2, -1));
    refusedEverywhere("no such sheet, missing", BAD, p -> p.sheet(-1, -1, -1));
  }

  private static void writeNarrowed() {
    says(42, "Item i becomes v, narrowed to its sort (booleans: whether it is not 0): 1.");
    int[] values = {0, 1, -1, 127, 128, -128, -129, 255, 256, 32767, 32768, -32768, -32769, 65535, 65536, LEAST, MOST};
    int[] bytes = {0, 1, -1, 127, -128, -128, 127, -1, 0, -1, 0, 0, -1, -1, 0, 0, -1};
    int[] shorts = {0, 1, -1, 127, 128, -128, -129, 255, 256, 32767, -32768, -32768, 32767, -1, 0, 0, -1};
    PlayedTruth[] all = new PlayedTruth[5];
    for (int sort = 0; sort <= 4; sort++) {
      all[sort] = new PlayedTruth();
      all[sort].sheet(3, sort, 40);
    }
    for (int i = 0; i < values.length; i++) {
      int[] want = {bytes[i], shorts[i], values[i], values[i], values[i] == 0 ? 0 : 1};
      for (int sort = 0; sort <= 4; sort++) {
        due("write(3, 39, " + values[i] + "), sort " + sort, all[sort].write(3, 39, values[i]), 1);
        due("item", all[sort].item(3, sort, 39), want[sort]);
        due("the one ahead of it", all[sort].item(3, sort, 38), 0);
      }
    }
  }

  private static void writeOutside() {
    says(42, "BAD: no such SHEET; -11; -12.");
    for (int sheet : NO_SHEET) {
      refusedEverywhere("write(" + sheet + ", 0, 1)", BAD, p -> p.write(sheet, 0, 1));
      refusedEverywhere("write(" + sheet + ", -1, 1)", BAD, p -> p.write(sheet, -1, 1));
    }
    int[] outside = {-1, 4, 5, 40, LEAST, MOST};
    for (int i : outside) refused("write(0, " + i + ", 1) of four", OUTSIDE, Bounds::usual, p -> p.write(0, i, 1));
    int[] behind40 = {-1, 40, 41};
    for (int i : behind40) refused("write(3, " + i + ", 1) of forty", OUTSIDE, Bounds::full, p -> p.write(3, i, 1));
    refused("write(0, 0, 1) of none", OUTSIDE, () -> {
      PlayedTruth p = usual();
      p.sheet(0, 0, 0);
      return p;
    }, p -> p.write(0, 0, 1));
    int[] any = {0, -1, 40, LEAST, MOST};
    for (int i : any) refused("write(3, " + i + ", 1), missing", NOTHING, Bounds::usual, p -> p.write(3, i, 1));
    due("the last of four", usual().write(0, 3, 1), 1);
    due("the first of four", usual().write(0, 0, 1), 1);
    due("the last of forty", full().write(3, 39, 1), 1);
  }

  private static void itemOutside() {
    says(43, "BAD: no such SHEET, sort; -13; -11; -12.");
    for (int sheet : NO_SHEET) {
      refusedEverywhere("item(" + sheet + ", 0, 0)", BAD, p -> p.item(sheet, 0, 0));
      refusedEverywhere("item(" + sheet + ", 4, -1)", BAD, p -> p.item(sheet, 4, -1));
    }
    int[] noSort = {-1, 5, 6, LEAST, MOST};
    for (int sort : noSort) {
      refusedEverywhere("item(0, " + sort + ", 0)", BAD, p -> p.item(0, sort, 0));
      refused("item(3, " + sort + ", 0), missing", BAD, Bounds::usual, p -> p.item(3, sort, 0));
      refused("item(0, " + sort + ", 99)", BAD, Bounds::usual, p -> p.item(0, sort, 99));
    }
    int[] outside = {-1, 3, 4, 40, LEAST, MOST};
    for (int i : outside) {
      refused("item(1, 2, " + i + ") of three", OUTSIDE, Bounds::usual, p -> p.item(1, 2, i));
      refused("item(1, 0, " + i + ") of ints", SORT, Bounds::usual, p -> p.item(1, 0, i));
      refused("item(3, 0, " + i + "), missing", NOTHING, Bounds::usual, p -> p.item(3, 0, i));
    }
    int[] behind40 = {-1, 40, 41};
    for (int i : behind40) refused("item(3, 3, " + i + ") of forty", OUTSIDE, Bounds::full, p -> p.item(3, 3, i));
  }

  private static void itemSorts() {
    says(43, "-13 a thing of another sort or kind");
    for (int sort = 0; sort <= 4; sort++) {
      PlayedTruth p = new PlayedTruth();
      p.sheet(2, sort, 1);
      for (int as = 0; as <= 4; as++) {
        due("item(2, " + as + ", 0) of sort " + sort, p.item(2, as, 0), as == sort ? 0 : SORT);
        due("item(2, " + as + ", 1) of sort " + sort, p.item(2, as, 1), as == sort ? OUTSIDE : SORT);
      }
      p.sheet(2, sort, 0);
      for (int as = 0; as <= 4; as++) due("an empty one as " + as, p.item(2, as, 0), as == sort ? OUTSIDE : SORT);
    }
  }

  private static void itemAsLow() {
    says(43, "(An item may be as low as these, too.)");
    int[] values = {-1, -11, -12, -13, -128};
    for (int sort = 0; sort <= 3; sort++) {
      PlayedTruth p = new PlayedTruth();
      p.sheet(0, sort, 2);
      for (int v : values) {
        p.write(0, 1, v);
        due("item of " + v + ", sort " + sort, p.item(0, sort, 1), v);
      }
    }
    says(43, "of longs the lowest 32 bits; of booleans 1, 0");
    PlayedTruth p = new PlayedTruth();
    p.sheet(0, 3, 1);
    p.write(0, 0, LEAST);
    due("the least", p.item(0, 3, 0), LEAST);
    p.write(0, 0, MOST);
    due("the most", p.item(0, 3, 0), MOST);
  }

  // ---- acts on a sheet

  private static void goAllRanges() {
    says(44, "BAD: no such SHEET, n; -13; -11; -12");
    for (int sheet : NO_SHEET) refusedEverywhere("goAll(" + sheet + ", 0, 1)", BAD, p -> p.goAll(sheet, 0, 1));
    int[] noCount = {-1, 21, LEAST, MOST};
    for (int n : noCount) {
      refusedEverywhere("goAll(0, 0, " + n + ")", BAD, p -> p.goAll(0, 0, n));
      refused("goAll(1, 0, " + n + ") of ints", BAD, Bounds::usual, p -> p.goAll(1, 0, n));
      refused("goAll(3, 0, " + n + "), missing", BAD, Bounds::usual, p -> p.goAll(3, 0, n));
    }
    for (int n = 0; n <= 20; n += 20) {
      int count = n;
      refused("goAll(3, 0, " + n + "), missing", NOTHING, Bounds::usual, p -> p.goAll(3, 0, count));
      refused("goAll(3, -1, " + n + "), missing", NOTHING, Bounds::usual, p -> p.goAll(3, -1, count));
      refused("goAll(1, 0, " + n + ") of ints", SORT, Bounds::usual, p -> p.goAll(1, 0, count));
      refused("goAll(1, -1, " + n + ") of ints", SORT, Bounds::usual, p -> p.goAll(1, -1, count));
    }
    for (int sort = 1; sort <= 4; sort++) {
      PlayedTruth p = kept(1, 16);
      p.sheet(0, sort, 3);
      due("sort " + sort, p.goAll(0, 0, 1), SORT);
      due("nothing was done", p.state(0), 0);
    }
    says(44, "n (0 to 20) items of a SHEET taken for bytes");
    PlayedTruth p = kept(1, 16);
    p.sheet(0, 0, 40);
    due("goAll(0, 0, 0)", p.goAll(0, 0, 0), 0);
    due("night", p.state(0), 0);
    int[] anywhere = {-1, 40, 41, LEAST, MOST};
    for (int i : anywhere) due("goAll(0, " + i + ", 0): no item is asked", p.goAll(0, i, 0), 0);
    due("goAll(0, 39, 1)", p.goAll(0, 39, 1), 9);
    due("goAll(0, 20, 20), fifteen nights left", p.goAll(0, 20, 20), 15 * 9);
    due("night", p.state(0), 16);
  }

  private static void goAllOutside() {
    says(44, "-12: what stood ahead was done.");
    int[] outside = {-1, 4, 5, 40, LEAST, MOST, MOST - 1, LEAST + 1};
    for (int i : outside) {
      refused("goAll(0, " + i + ", 1)", OUTSIDE, Bounds::usual, p -> p.goAll(0, i, 1));
      refused("goAll(0, " + i + ", 20)", OUTSIDE, Bounds::usual, p -> p.goAll(0, i, 20));
    }
    PlayedTruth p = kept(2, 16);
    p.sheet(0, 0, 5);
    due("goAll(0, 0, 5) of five", p.goAll(0, 0, 5), 90);
    due("goAll(0, 2, 4) of five", p.goAll(0, 2, 4), OUTSIDE);
    due("three more nights went by", p.state(0), 8);
    due("they were worth something", p.state(2), 8 * 18);
    due("goAll(0, 4, 20)", p.goAll(0, 4, 20), OUTSIDE);
    due("one more", p.state(0), 9);
    due("goAll(0, 5, 1)", p.goAll(0, 5, 1), OUTSIDE);
    due("none more", p.state(0), 9);
    p.sheet(1, 0, 0);
    due("an empty one", p.goAll(1, 0, 1), OUTSIDE);
    due("none of an empty one", p.goAll(1, 0, 0), 0);
  }

  private static void goAllActs() {
    says(44, "(what is none, or when it is OVER, is left out)");
    PlayedTruth p = kept(6, 16);
    fill(p, 0, -128, -1, 0, 6, 7, 127);
    due("0 and 6 are acts of six", p.goAll(0, 0, 6), 2 * 54);
    due("two nights", p.state(0), 2);
    due("none of these is one", p.goAll(0, 4, 2), 0);
    due("nor these", p.goAll(0, 0, 2), 0);
    due("two nights", p.state(0), 2);
    PlayedTruth none = fill(new PlayedTruth(), 0, 0, 1);
    due("without scenes 0 alone is one", none.goAll(0, 0, 2), 0);
    due("one night", none.state(0), 1);
    PlayedTruth last = kept(6, 16);
    Check.tell(last, "scene if number < 5 keep;");
    fill(last, 0, 6, 5);
    due("6 tells the last", last.goAll(0, 0, 1), 21 + 54);
    due("5 tells the one ahead", last.goAll(0, 1, 1), 54);
  }

  private static void goAllOver() {
    says(44, "(what is none, or when it is OVER, is left out)");
    PlayedTruth p = kept(1, 2);
    p.sheet(0, 0, 3);
    due("two of three", p.goAll(0, 0, 3), 18);
    due("it is over", p.state(0), 2);
    due("all are left out", p.goAll(0, 0, 3), 0);
    due("it is over", p.state(0), 2);
    p.ends(3);
    due("the last one", p.goAll(0, 0, 3), 9);
    due("the score", p.state(2), 27);
  }

  private static void wouldBeRanges() {
    says(45, "BAD: no such SHEET, n; -13; -11; then, by items, -12; STATE");
    for (int sheet : NO_SHEET) refusedEverywhere("wouldBe(" + sheet + ", 0, 1)", BAD, p -> p.wouldBe(sheet, 0, 1));
    int[] noCount = {-1, 21, LEAST, MOST};
    for (int n : noCount) {
      refusedEverywhere("wouldBe(0, 0, " + n + ")", BAD, p -> p.wouldBe(0, 0, n));
      refused("wouldBe(1, 0, " + n + ") of ints", BAD, Bounds::usual, p -> p.wouldBe(1, 0, n));
      refused("wouldBe(3, 0, " + n + "), missing", BAD, Bounds::usual, p -> p.wouldBe(3, 0, n));
    }
    for (int n = 0; n <= 20; n += 20) {
      int count = n;
      refused("wouldBe(3, 0, " + n + "), missing", NOTHING, Bounds::usual, p -> p.wouldBe(3, 0, count));
      refused("wouldBe(1, 9, " + n + ") of ints", SORT, Bounds::usual, p -> p.wouldBe(1, 9, count));
      refused("wouldBe(2, 0, " + n + ") of booleans, over", SORT, Bounds::over, p -> p.wouldBe(2, 0, count));
    }
    says(45, "n (0 to 20) items likewise: what they would be WORTH.");
    PlayedTruth p = kept(1, 16);
    p.sheet(0, 0, 40);
    int[] anywhere = {0, -1, 40, LEAST, MOST};
    for (int i : anywhere) due("wouldBe(0, " + i + ", 0): no item is asked", p.wouldBe(0, i, 0), 0);
    due("sixteen", p.wouldBe(0, 24, 16), 144);
    due("seventeen", p.wouldBe(0, 23, 17), STATE);
    due("twenty", p.wouldBe(0, 20, 20), STATE);
  }

  private static void wouldBeByItems() {
    says(45, "then, by items, -12; STATE: one is no ACT, or it would be OVER ahead of it.");
    int[] outside = {-1, 4, 5, 40, LEAST, MOST, MOST - 1, LEAST + 1};
    for (int i : outside) refused("wouldBe(0, " + i + ", 20)", OUTSIDE, Bounds::usual, p -> p.wouldBe(0, i, 20));
    // Items 2, 5, 0, 77: the first three are acts of five scenes.
    refused("three acts", usual().wouldBe(0, 0, 3), Bounds::usual, p -> p.wouldBe(0, 0, 3));
    due("they are worth something", usual().wouldBe(0, 0, 3) > 0 ? 1 : 0, 1);
    refused("the fourth is none", STATE, Bounds::usual, p -> p.wouldBe(0, 0, 4));
    refused("the fourth is none, ahead of one outside", STATE, Bounds::usual, p -> p.wouldBe(0, 0, 5));
    refused("one outside, ahead of none", OUTSIDE, Bounds::usual, p -> p.wouldBe(0, -1, 5));
    PlayedTruth p = kept(6, 16);
    fill(p, 0, 6, 7, 0, -1, -128, 127);
    due("6 of six", p.wouldBe(0, 0, 1), 54);
    due("7 of six", p.wouldBe(0, 1, 1), STATE);
    due("0", p.wouldBe(0, 2, 1), 54);
    due("-1", p.wouldBe(0, 3, 1), STATE);
    due("-128", p.wouldBe(0, 4, 1), STATE);
    due("127", p.wouldBe(0, 5, 1), STATE);
    due("outside", p.wouldBe(0, 6, 1), OUTSIDE);
    due("no act ahead of outside", p.wouldBe(0, 5, 2), STATE);
  }

  private static void wouldBeOver() {
    says(45, "one is no ACT, or it would be OVER ahead of it.");
    PlayedTruth p = kept(1, 3);
    p.sheet(0, 0, 4);
    p.sheet(1, 0, 3);
    due("three of three", p.wouldBe(0, 0, 3), 27);
    due("over ahead of the fourth", p.wouldBe(0, 0, 4), STATE);
    due("outside where it would be over", p.wouldBe(1, 0, 4), OUTSIDE);
    p.night();
    due("two", p.wouldBe(0, 0, 2), 18);
    due("over ahead of the third", p.wouldBe(0, 0, 3), STATE);
    p.night();
    p.night();
    due("over, none asked", p.wouldBe(0, 0, 0), 0);
    due("over", p.wouldBe(0, 0, 1), STATE);
    due("outside, over", p.wouldBe(0, 4, 1), OUTSIDE);
    refused("over", STATE, Bounds::over, q -> q.wouldBe(0, 0, 1));
  }

  // ---- shelves

  private static void shelfRanges() {
    says(46, "BAD: no such SHELF, what, thing.");
    int[] noShelf = {-1, 4, 5, LEAST, MOST};
    for (int shelf : noShelf) {
      for (int what = 0; what <= 2; what++) {
        int w = what;
        refusedEverywhere("shelf(" + shelf + ", " + what + ", 0)", BAD, p -> p.shelf(shelf, w, 0));
      }
    }
    int[] noWhat = {-1, 3, 4, LEAST, MOST};
    for (int what : noWhat) refusedEverywhere("shelf(0, " + what + ", 0)", BAD, p -> p.shelf(0, what, 0));
    int[] nobody = {-1, 6, LEAST, MOST};
    for (int n : nobody) refusedEverywhere("shelf(0, 0, " + n + ")", BAD, p -> p.shelf(0, 0, n));
    refused("shelf(0, 0, 5) of five", BAD, Bounds::usual, p -> p.shelf(0, 0, 5));
    refused("shelf(0, 0, 0) of none", BAD, PlayedTruth::new, p -> p.shelf(0, 0, 0));
    for (int n : NO_SHEET) refusedEverywhere("shelf(0, 1, " + n + ")", BAD, p -> p.shelf(0, 1, n));
  }

  private static void shelfHolds() {
    says(46, "A SHELF holds SCENE n (what 0), the row of SHEET n (1; nothing, if missing), nothing (2): 1.");
    for (int shelf = 0; shelf < 4; shelf++) {
      PlayedTruth p = full();
      due("the first scene", p.shelf(shelf, 0, 0), 1);
      due("taken", p.taken(shelf, 0), 0);
      due("the last scene", p.shelf(shelf, 0, 5), 1);
      due("taken", p.taken(shelf, 0), 5);
      for (int sheet = 0; sheet < 4; sheet++) {
        due("sheet " + sheet, p.shelf(shelf, 1, sheet), 1);
        due("taken", p.taken(shelf, 10 + sheet), 40);
      }
      int[] any = {0, -1, 6, LEAST, MOST};
      for (int n : any) {
        p.shelf(shelf, 0, 1);
        due("nothing, n " + n, p.shelf(shelf, 2, n), 1);
        due("taken", p.taken(shelf, 0), NOTHING);
      }
      p.shelf(shelf, 0, 1);
      p.sheet(0, -1, 0);
      due("a missing sheet", p.shelf(shelf, 1, 0), 1);
      due("is nothing", p.taken(shelf, 0), NOTHING);
      due("the next shelf stays", p.taken((shelf + 1) % 4, 0), full().taken((shelf + 1) % 4, 0));
    }
    PlayedTruth p = new PlayedTruth();
    p.sheet(0, 0, 0);
    p.shelf(0, 1, 0);
    due("an empty row is a row", p.taken(0, 10), 0);
  }

  private static void shelfNothing() {
    says(46, "(by its number; nothing, if there is no such one at the time)");
    PlayedTruth p = new PlayedTruth();
    p.keep();
    p.scene(1, 0, 0, 2);
    p.shelf(0, 0, 0);
    due("a scene", p.taken(0, 1), 0);
    p.again();
    due("none of that number", p.taken(0, 1), NOTHING);
    due("it has no act", p.act(0, 0, 1), 0);
    due("no trace", p.many(6), 0);
    p.scene(5, 0, 0, 2);
    due("another of that number", p.taken(0, 1), SORT);
    due("another of that number", p.taken(0, 5), 0);
  }

  private static void takenRanges() {
    says(47, "BAD: no such SHELF, as; -13; -11.");
    int[] noShelf = {-1, 4, 5, LEAST, MOST};
    for (int shelf : noShelf) {
      refusedEverywhere("taken(" + shelf + ", 0)", BAD, p -> p.taken(shelf, 0));
      refusedEverywhere("taken(" + shelf + ", 14)", BAD, p -> p.taken(shelf, 14));
    }
    int[] noAs = {-1, 6, 7, 8, 9, 15, 16, LEAST, MOST};
    for (int as : noAs) {
      for (int shelf = 0; shelf < 4; shelf++) {
        int s = shelf;
        refusedEverywhere("taken(" + shelf + ", " + as + ")", BAD, p -> p.taken(s, as));
      }
    }
    says(47, "-11 nothing where something is asked");
    for (int as = 0; as <= 14; as = as == 5 ? 10 : as + 1) {
      int a = as;
      refused("taken(2, " + as + ") of nothing", NOTHING, Bounds::usual, p -> p.taken(2, a));
      refused("taken(0, " + as + ") of nothing", NOTHING, PlayedTruth::new, p -> p.taken(0, a));
    }
  }

  private static void takenKinds() {
    says(47, "What a SHELF holds taken for a thing of KIND as (0 to 5, or one under it): its number");
    String[] under = {"0", "01", "02", "023", "04", "045"};
    for (int kind = 1; kind <= 5; kind++) {
      PlayedTruth p = new PlayedTruth();
      for (int k = 0; k < 5; k++) p.scene(1, 0, 0, 0);
      p.scene(kind, 0, 0, 0);
      p.shelf(3, 0, 5);
      for (int as = 0; as <= 5; as++) {
        due("kind " + kind + " as " + as, p.taken(3, as), under[kind].indexOf('0' + as) >= 0 ? 5 : SORT);
      }
      for (int as = 10; as <= 14; as++) due("kind " + kind + " as " + as, p.taken(3, as), SORT);
    }
  }

  private static void takenRows() {
    says(47, "for a row of sort as - 10 (as 10 to 14): how many items.");
    int[] sizes = {0, 1, 40};
    for (int sort = 0; sort <= 4; sort++) {
      for (int n : sizes) {
        PlayedTruth p = new PlayedTruth();
        p.scene(1, 0, 0, 0);
        p.sheet(3, sort, n);
        p.shelf(0, 1, 3);
        for (int as = 10; as <= 14; as++) due("sort " + sort + " as " + as, p.taken(0, as), as == 10 + sort ? n : SORT);
        for (int as = 0; as <= 5; as++) due("sort " + sort + " as " + as, p.taken(0, as), SORT);
      }
    }
  }

  // ---- acts

  /** One of a kind on shelf 3, with number n, in place a. */
  private static PlayedTruth one(int kind, int n, int a) {
    PlayedTruth p = new PlayedTruth();
    for (int k = 0; k < n; k++) p.scene(1, 0, 0, 0);
    p.scene(kind, 0, 0, a);
    p.shelf(3, 0, n);
    return p;
  }

  private static void traceIs(PlayedTruth p, int... bodies) {
    due("many(6)", p.many(6), bodies.length);
    for (int i = 0; i < bodies.length; i++) due("trace(" + i + ")", p.trace(i), bodies[i]);
    due("trace(" + bodies.length + ")", p.trace(bodies.length), NONE);
  }

  private static void actNone() {
    says(48, "0, and no TRACE then: no such SHELF, act, nothing, a row.");
    int[][] none = {{-1, 0}, {4, 0}, {LEAST, 0}, {MOST, 0}, {3, -1}, {3, 4}, {3, LEAST}, {3, MOST}, {2, 0}, {1, 3}};
    for (int[] w : none) {
      PlayedTruth p = one(1, 0, 0);
      p.sheet(0, 0, 3);
      p.shelf(1, 1, 0);
      due("an act ahead", p.act(3, 0, 1), 6 ^ 10);
      traceIs(p, 20, 10);
      due("act(" + w[0] + ", " + w[1] + ", 5)", p.act(w[0], w[1], 5), 0);
      traceIs(p);
    }
    for (int shelf = 0; shelf < 4; shelf++) {
      for (int act = 0; act < 4; act++) {
        PlayedTruth p = new PlayedTruth();
        due("nothing: act(" + shelf + ", " + act + ", 5)", p.act(shelf, act, 5), 0);
        p.scene(2, 0, 0, 5);
        p.shelf(shelf, 0, 0);
        due("a duet: act(" + shelf + ", " + act + ", 5)", p.act(shelf, act, 5), new int[] {30, 50, 2, 52}[act]);
      }
    }
  }

  private static void actWraps() {
    says(48, "with a number x (ints that wrap)");
    int[] xs = {MOST, LEAST, MOST - 7, MOST - 6, LEAST + 1, MOST / 6, MOST / 6 + 1, LEAST / 6 - 1, 1 << 30, -1, 0};
    for (int x : xs) {
      PlayedTruth scene = one(4, 3, 5);
      due("enters", scene.act(3, 0, x), (int) (6L * x + 3));
      due("speaks", scene.act(3, 1, x), (int) (6L * x + 3 - 5));
      due("halves", scene.act(3, 2, x), (int) (x / 5L + 6));
      due("exits", scene.act(3, 3, x), (int) (6L * x - 2 + x / 5 + 6));
      PlayedTruth trial = one(1, 3, 5);
      due("trial enters", trial.act(3, 0, x), (int) (6L * x + 3) ^ 10);
      PlayedTruth duet = one(2, 3, 5);
      due("duet speaks", duet.act(3, 1, x), (int) ((6L * x - 2) * 2));
      PlayedTruth sunset = one(3, 3, 5);
      due("sunset enters", sunset.act(3, 0, x), (int) (6L * (x + 7L) + 3));
      due("sunset exits", sunset.act(3, 3, x), (int) ((6L * (x + 7L) - 2) * 2 + x / 5 - (6L * 12 - 2) * 2));
      PlayedTruth match = one(5, 3, 5);
      due("match speaks", match.act(3, 1, x), (int) -(6L * x - 2));
      due("match halves", match.act(3, 2, x), (int) (x / 5L + 6) ^ 21);
    }
    due("six times 2 to the 30th is the least", one(2, 0, 0).act(3, 0, 1 << 30), LEAST);
    due("twice the least is 0", one(2, 0, 0).act(3, 1, 1 << 30), 0);
    due("0 less the least is the least", one(5, 0, 0).act(3, 1, 1 << 30), LEAST);
    says(48, "Quotients are cut towards 0.");
    PlayedTruth third = one(2, 0, 0);
    int[] parted = {0, 1, 2, 3, 4, -1, -2, -3, -4, MOST, LEAST};
    int[] thirds = {0, 0, 0, -1, -1, 0, 0, 1, 1, -715827882, 715827882};
    for (int i = 0; i < parted.length; i++) due("by -3: " + parted[i], third.act(3, 2, parted[i]), thirds[i]);
    due("the least by -1 wraps", one(2, 2, 0).act(3, 2, LEAST), LEAST);
    due("the least by -1 wraps", one(2, 0, 2).act(3, 2, LEAST), LEAST);
    due("the least by 1", one(2, 4, 0).act(3, 2, LEAST), LEAST);
    due("the most by 7", one(2, 5, 5).act(3, 2, MOST), 306783378);
  }

  private static void actParted() {
    says(48, "(-15 if that is 0; that is all that act() answers then)");
    for (int n = 0; n <= 5; n++) {
      for (int a = 0; a <= 5; a++) {
        int by = a + n - 3;
        due("a trial of " + n + " in " + a, one(1, n, a).act(3, 2, 40), by == 0 ? PARTED : 40 / by);
        due("a crowd of " + n + " in " + a, one(4, n, a).act(3, 2, 40), by == 0 ? PARTED : 40 / by + 6);
        due("a match of " + n + " in " + a, one(5, n, a).act(3, 2, 40), by == 0 ? PARTED : 40 / by + 6 ^ 7 * n);
        due("0 parted, too: " + n + " in " + a, one(2, n, a).act(3, 2, 0), by == 0 ? PARTED : 0);
        due("exits of " + n + " in " + a, one(2, n, a).act(3, 3, 1), by == 0 ? PARTED : 2 * (6 + n - a) + 1 / by);
        due("speaks of " + n + " in " + a + " parts nothing", one(2, n, a).act(3, 1, 1), 2 * (6 + n - a));
        due("enters of " + n + " in " + a + " parts nothing", one(2, n, a).act(3, 0, 1), 6 + n);
      }
    }
    PlayedTruth p = one(4, 0, 3);
    due("parted", p.act(3, 2, 1), PARTED);
    due("and then not", p.act(3, 1, 1), 3);
    traceIs(p, 11, 10);
    says(48, "numbers of the bodies that ran in the latest act(), as they began (left first)");
    due("parted", p.act(3, 3, 1), PARTED);
    traceIs(p, 13, 11, 10, 40, 12);
    PlayedTruth sunset = one(3, 0, 3);
    due("a sunset exits: it doesn't come to speak again", sunset.act(3, 3, 1), PARTED);
    traceIs(sunset, 51, 13, 30, 11, 50, 10, 12);
    PlayedTruth match = one(5, 0, 3);
    due("a match halves: it doesn't come to enter", match.act(3, 2, 1), PARTED);
    traceIs(match, 61, 40, 12);
    due("a match exits", match.act(3, 3, 1), PARTED);
    traceIs(match, 13, 60, 11, 10, 61, 40, 12);
  }

  private static void actByHeldNumbers() {
    says(48, "A SCENE is held as a thing of its KIND; n: its number, a: its PLACE.");
    PlayedTruth p = one(2, 5, 5);
    due("enters of number 5", p.act(3, 0, 0), 5);
    due("speaks in place 5", p.act(3, 1, 0), 0);
    p.change(5, 3, 0);
    due("speaks in place 0", p.act(3, 1, 0), 10);
    p.remake(5, 1);
    due("a trial now", p.act(3, 0, 0), 5 ^ 10);
    p.change(5, 4, 1);
    due("settled or not", p.act(3, 0, 0), 5 ^ 10);
    p.ends(1);
    p.night();
    due("over or not", p.act(3, 0, 0), 5 ^ 10);
    PlayedTruth first = one(3, 0, 0);
    due("number 0 in place 0", first.act(3, 0, 0), 42);
    due("number 0 in place 0", first.act(3, 1, -7), 0);
  }

  private static void trace() {
    says(49, "the first 30 are kept.");
    // No act runs more bodies than a sunset's exits, so all are kept.
    PlayedTruth p = one(3, 1, 5);
    due("exits", p.act(3, 3, 0), 2 * 38 + 0 - 2 * 68);
    traceIs(p, 51, 13, 30, 11, 50, 10, 12, 30, 11, 50, 10);
    int[][] most = {{}, {13, 11, 20, 10, 12}, {13, 30, 11, 10, 12}, {}, {13, 11, 10, 40, 12}, {13, 60, 11, 10, 61, 40, 12, 10}};
    for (int kind = 1; kind <= 5; kind++) {
      if (kind == 3) continue;
      PlayedTruth q = one(kind, 1, 5);
      q.act(3, 3, 1);
      traceIs(q, most[kind]);
    }
    says(49, "THE TRACE's i-th body. NONE.");
    int[] none = {-1, 11, 12, 29, 30, 31, LEAST, MOST};
    for (int i : none) due("trace(" + i + ") of eleven", p.trace(i), NONE);
    due("trace(0)", p.trace(0), 51);
    due("trace(10)", p.trace(10), 10);
    p.act(3, 2, 0);
    due("the latest act alone", p.trace(0), 12);
    due("the latest act alone", p.trace(1), NONE);
    refused("trace(0) of none", NONE, PlayedTruth::new, q -> q.trace(0));
    refused("trace(-1)", NONE, Bounds::usual, q -> q.trace(-1));
    refused("trace(11)", NONE, Bounds::usual, q -> q.trace(11));
  }

  private static void many() {
    says(50, "BAD: another what.");
    int[] none = {-1, 7, 8, LEAST, MOST};
    for (int what : none) refusedEverywhere("many(" + what + ")", BAD, p -> p.many(what));
    says(50, "what = 0 SCENES, 1 RULES, 2 those SETTLED, 3 REPORTS, 4 ROWS, 5 bytes of THE TAPE, 6 bodies of THE TRACE");
    int[] full = {6, 8, 2, 6, 4, 200, 11};
    for (int what = 0; what <= 6; what++) due("full: many(" + what + ")", full().many(what), full[what]);
    PlayedTruth p = full();
    for (int k = 0; k < 6; k++) p.change(k, 4, 1);
    due("all are settled", p.many(2), 6);
    PlayedTruth empty = new PlayedTruth();
    for (int what = 0; what <= 6; what++) due("new: many(" + what + ")", empty.many(what), 0);
  }

  // ---- kept

  private static void keep() {
    says(51, "All but THE TAPE, ROWS, SHEETS, SHELVES, THE TRACE is kept: 1.");
    due("keep of a new one", new PlayedTruth().keep(), 1);
    due("keep of a full one", full().keep(), 1);
    due("keep of one that is over", over().keep(), 1);
    PlayedTruth p = new PlayedTruth();
    p.keep();
    for (int k = 0; k < 6; k++) p.scene(1, 99, 9, 5);
    due("what is empty is kept, too", p.again(), 0);
    due("no scenes", p.many(0), 0);
    due("no truth", p.state(6), 0);
    due("the first number", p.scene(2, 0, 0, 0), 0);
    refused("keep changes nothing but what is kept", 1, () -> {
      PlayedTruth q = usual();
      q.keep();
      return q;
    }, PlayedTruth::keep);
  }

  private static void keptAndNot() {
    says(52, "It becomes what was kept latest (which stays): how many SCENES.");
    PlayedTruth p = full();
    p.night();
    p.lot();
    p.place(5, 0, 9);
    p.place(0, 1, 9);
    p.house(15, 7);
    p.seed(LEAST);
    p.keep();
    int[] state = new int[7];
    for (int what = 0; what <= 6; what++) state[what] = p.state(what);
    spoil(p);
    due("again", p.again(), 6);
    for (int what = 0; what <= 6; what++) due("state(" + what + ")", p.state(what), state[what]);
    due("rules", p.many(1), 8);
    due("reports", p.many(3), 6);
    due("light", p.placeOf(5, 0), 9);
    due("noise", p.placeOf(0, 1), 9);
    due("house", p.house(15, 7), 7);
    due("z", p.seed(0), LEAST);
    due("kind", p.sceneOf(5, 0), 1);
    due("place", p.sceneOf(5, 3), 5);
    due("pretty", p.sceneOf(5, 2), 5);
    due("will: by the eighth rule", p.sceneOf(0, 9), 2);
    says(51, "All but THE TAPE, ROWS, SHEETS, SHELVES, THE TRACE is kept: 1.");
    due("the tape", p.many(5), 3);
    due("rows", p.many(4), 1);
    due("rows", p.row(0, 1), -77);
    due("sheets", p.item(3, 4, 1), 1);
    due("shelves", p.taken(0, 14), 2);
    due("the trace", p.many(6), 1);
  }

  private static void keptReports() {
    says(51, "All but THE TAPE, ROWS, SHEETS, SHELVES, THE TRACE is kept: 1.");
    int[][] others = {{0, 1, 5, 20}, {1, 0, 5, 20}, {1, 1, 18, 20}, {1, 1, 5, 9}};
    for (int[] other : others) {
      PlayedTruth p = new PlayedTruth();
      p.report(1, 1, 5, 20);
      int fits = p.lone(0);
      p.keep();
      p.forget();
      p.report(other[0], other[1], other[2], other[3]);
      due("another report, others fit", p.lone(0) == fits ? 1 : 0, 0);
      p.again();
      due("the report that was kept", p.lone(0), fits);
      p.forget();
      p.again();
      due("the report that was kept, and none ahead", p.lone(0), fits);
    }
  }

  /** Changes all that there is. */
  private static void spoil(PlayedTruth p) {
    p.anew();
    p.ends(9);
    for (int k = 0; k < 6; k++) {
      p.remake(k, 3);
      for (int what = 1; what <= 4; what++) p.change(k, what, 1);
      p.place(k, 0, 4);
      p.place(k, 1, 4);
    }
    for (int i = 0; i < 16; i++) p.house(i, 2);
    p.rules();
    p.forget();
    p.report(3, 0, 1, 1);
    p.seed(3);
    p.feed(0, 3);
    p.prove(1);
    p.alterRow(0, 1, -77);
    p.sheet(3, 4, 2);
    p.write(3, 1, 9);
    p.shelf(0, 1, 3);
    p.shelf(1, 0, 0);
    p.act(1, 0, 1);
    p.act(1, 2, 1);
  }

  private static void again() {
    says(52, "NONE: nothing is kept.");
    refused("again of a new one", NONE, PlayedTruth::new, PlayedTruth::again);
    refused("again of one with scenes", NONE, () -> kept(3, 5), PlayedTruth::again);
    says(52, "It becomes what was kept latest (which stays): how many SCENES.");
    PlayedTruth p = new PlayedTruth();
    for (int k = 0; k < 6; k++) {
      p.scene(1, k, 0, 0);
      due("keep", p.keep(), 1);
      p.change(0, 1, 77);
      due("the latest", p.again(), k + 1);
      due("it stays", p.again(), k + 1);
      due("as it was", p.sceneOf(0, 1), 0);
    }
    p.ends(1);
    p.keep();
    p.ends(16);
    for (int i = 0; i < 16; i++) p.night();
    due("from night 16 to night 0", p.again(), 6);
    due("night", p.state(0), 0);
    due("end", p.state(1), 1);
  }
}
