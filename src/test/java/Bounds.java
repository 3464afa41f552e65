import java.io.IOException;
import java.io.UncheckedIOException;
import java.nio.file.Files;
import java.nio.file.Path;
import java.util.ArrayList;
import java.util.List;
import java.util.TreeSet;

/**
 * What the tests of the boundary cases, which extend it, share. Each case stands behind says(), which names the promise and quotes the
 * sentence of the document that the case is of; a quotation that the document doesn't have there is wrong itself.
 */
abstract class Bounds {
  interface Call {
    int on(PlayedTruth p);
  }

  interface Setting {
    PlayedTruth make();
  }

  static final int BAD = Check.BAD, FULL = Check.FULL, NONE = Check.NONE, STATE = Check.STATE, NO_ROW = -9;
  static final int NOTHING = Check.NOTHING, OUTSIDE = Check.OUTSIDE, SORT = Check.SORT, SIZE = Check.SIZE;
  static final int PARTED = Check.PARTED;
  static final int LEAST = Integer.MIN_VALUE, MOST = Integer.MAX_VALUE;
  private static final int LAST_PROMISE = 52;

  private static final String DOC = document();
  private static final TreeSet<Integer> NAMED = new TreeSet<>();
  private static String sentence = "";

  /** Empty if the document isn't there: then the cases are looked at all the same, but not the quotations. */
  private static String document() {
    Path path = Path.of("../shared/DOC.md");
    if (!Files.exists(path)) return "";
    try {
      return Files.readString(path).replaceAll("\\s+", " ");
    } catch (IOException e) {
      throw new UncheckedIOException(e);
    }
  }

  /** From here on what is due is due by this sentence, which stands in the promise or in a part that all share. */
  static void says(int promise, String words) {
    NAMED.add(promise);
    sentence = promise + " '" + words + "'";
    if (!DOC.isEmpty()) Check.due(sentence + " stands in the document", isQuoted(promise, words) ? 1 : 0, 1);
  }

  private static boolean isQuoted(int promise, String words) {
    int from = DOC.indexOf("## Promise " + promise + ":");
    int to = promise == LAST_PROMISE ? DOC.indexOf("## Not promised") : DOC.indexOf("## Promise " + (promise + 1) + ":");
    return DOC.substring(from, to).contains(words) || DOC.substring(0, DOC.indexOf("## Promise 1:")).contains(words);
  }

  static void due(String call, int got, int want) {
    Check.due(sentence + ": " + call, got, want);
  }

  /** Ends a test of these promises, each of which must have been named. */
  static void end(String name, int... promises) {
    for (int promise : promises) Check.due("a sentence of promise " + promise, NAMED.contains(promise) ? 1 : 0, 1);
    Check.end(name);
  }

  static int[] promises(int first, int last) {
    int[] all = new int[last - first + 1];
    for (int i = 0; i < all.length; i++) all[i] = first + i;
    return all;
  }

  // ---- refusals: of two objects made alike one gets the call, and then both must answer alike, whatever is asked

  static void refused(String call, int want, Setting setting, Call made) {
    PlayedTruth p = setting.make();
    PlayedTruth q = setting.make();
    due(call, made.on(p), want);
    List<String> after = read(p);
    List<String> without = read(q);
    for (int i = 0; i < after.size(); i++) {
      if (after.get(i).equals(without.get(i))) continue;
      due(call + " changed nothing, but: " + after.get(i) + " in place of " + without.get(i), 1, 0);
      return;
    }
    due(call + " changed nothing", 0, 0);
  }

  /** On an object with something of everything, on a full one, on one that is over, and on a new one. */
  static void refusedEverywhere(String call, int want, Call made) {
    refused(call + ", usual,", want, Bounds::usual, made);
    refused(call + ", full,", want, Bounds::full, made);
    refused(call + ", over,", want, Bounds::over, made);
    refused(call + ", new,", want, PlayedTruth::new, made);
  }

  /** Five scenes at night 2, the first settled, and something of all that an object can hold. */
  static PlayedTruth usual() {
    PlayedTruth p = usualWithoutTape();
    Check.feed(p, "duet kee");
    return p;
  }

  static PlayedTruth usualWithoutTape() {
    PlayedTruth p = new PlayedTruth();
    p.place(0, 0, 1);
    p.place(1, 1, 2);
    p.place(4, 1, 6);
    p.scene(1, 55, 3, 0);
    p.scene(2, 40, 6, 1);
    p.scene(4, 5, 2, 2);
    p.house(1, 14);
    p.report(0, 0, 0, 10);
    p.keep();
    p.scene(5, 30, 9, 1);
    p.scene(3, 44, 5, 2);
    p.house(3, 7);
    p.ends(9);
    Check.tell(p, "match if night > 3 keep; sunset trim;");
    p.report(3, 0, 20, 60);
    p.seed(77);
    p.night();
    p.night();
    p.prove(2);
    p.sheet(0, 0, 4);
    p.write(0, 0, 2);
    p.write(0, 1, 5);
    p.write(0, 3, 77);
    p.sheet(1, 2, 3);
    p.write(1, 2, -12);
    p.sheet(2, 4, 2);
    p.write(2, 1, 1);
    p.shelf(0, 0, 4);
    p.shelf(1, 1, 1);
    p.shelf(3, 0, 1);
    p.act(0, 3, 7);
    return p;
  }

  static PlayedTruth over() {
    PlayedTruth p = usual();
    p.ends(2);
    return p;
  }

  /** As much of everything as can be: nothing more comes on the tape, no scene, no report. */
  static PlayedTruth full() {
    PlayedTruth p = new PlayedTruth();
    for (int k = 0; k < 6; k++) p.scene(1 + k % 5, 9 * k, k, k);
    for (int r = 0; r < 6; r++) p.report(2 * r, 1, r, 400 + r);
    p.ends(16);
    Check.tell(p, "duet keep;".repeat(7) + "trial if night > 1 trim;");
    p.change(3, 4, 1);
    p.keep();
    p.change(5, 4, 1);
    p.prove(4);
    for (int sheet = 0; sheet < 4; sheet++) {
      p.sheet(sheet, sheet, 40);
      p.write(sheet, 39, 3 + sheet);
    }
    p.shelf(0, 1, 0);
    p.shelf(1, 0, 5);
    p.shelf(2, 0, 2);
    p.shelf(3, 1, 3);
    p.act(2, 3, 5);
    Check.feed(p, "match trim;" + " ".repeat(189));
    return p;
  }

  /** All that can be read from an object, at last also by calls that change it; some 320 calls. */
  static List<String> read(PlayedTruth p) {
    List<String> all = new ArrayList<>();
    readStage(p, all);
    for (int what = 0; what <= 6; what++) add(all, "many(" + what + ")", p.many(what));
    for (int k = 0; k < 4; k++) {
      for (int what = 0; what < 3; what++) add(all, "row(" + k + ", " + what + ")", p.row(k, what));
    }
    for (int i = 0; i < 12; i++) add(all, "trace(" + i + ")", p.trace(i));
    for (int sheet = 0; sheet < 4; sheet++) readSheet(p, sheet, all);
    for (int shelf = 0; shelf < 4; shelf++) {
      for (int as = 0; as <= 14; as = as == 5 ? 10 : as + 1) {
        add(all, "taken(" + shelf + ", " + as + ")", p.taken(shelf, as));
      }
    }
    add(all, "on(16)", p.on(16));
    add(all, "best(3)", p.best(3));
    add(all, "times(3, 500)", p.times(3, 500));
    add(all, "judge()", p.judge());
    readHousesAndSeed(p, all);
    add(all, "rules()", p.rules());
    for (int k = 0; k < 6; k++) add(all, "sceneOf(" + k + ", 9) by the tape", p.sceneOf(k, 9));
    add(all, "again()", p.again());
    readStage(p, all);
    readHousesAndSeed(p, all);
    return all;
  }

  private static void add(List<String> all, String call, int answer) {
    all.add(call + " " + answer);
  }

  private static void readStage(PlayedTruth p, List<String> all) {
    for (int k = 0; k < 6; k++) {
      for (int what = 0; what <= 9; what++) add(all, "sceneOf(" + k + ", " + what + ")", p.sceneOf(k, what));
    }
    for (int what = 0; what <= 6; what++) add(all, "state(" + what + ")", p.state(what));
    for (int f = 0; f < 6; f++) {
      add(all, "placeOf(" + f + ", 0)", p.placeOf(f, 0));
      add(all, "placeOf(" + f + ", 1)", p.placeOf(f, 1));
    }
    add(all, "many(1)", p.many(1));
    add(all, "many(3)", p.many(3));
    for (int what = 0; what <= 3; what++) add(all, "lone(" + what + ")", p.lone(what));
    add(all, "liar()", p.liar());
  }

  private static void readSheet(PlayedTruth p, int sheet, List<String> all) {
    for (int sort = 0; sort <= 4; sort++) {
      int first = p.item(sheet, sort, 0);
      add(all, "item(" + sheet + ", " + sort + ", 0)", first);
      if (first == SORT || first == NOTHING) continue;
      int[] places = {1, 2, 3, 4, 39, 40};
      for (int i : places) add(all, "item(" + sheet + ", " + sort + ", " + i + ")", p.item(sheet, sort, i));
    }
  }

  private static void readHousesAndSeed(PlayedTruth p, List<String> all) {
    for (int i = 0; i < 16; i++) add(all, "house(" + i + ", 0)", p.house(i, 0));
    add(all, "seed(0)", p.seed(0));
    add(all, "ends(16)", p.ends(16));
  }
}
