/** What the tests by hand share: answers that are due, and texts for the tape. */
final class Check {
  static final int BAD = -1, FULL = -2, NONE = -3, STATE = -4;
  static final int NOTHING = -11, OUTSIDE = -12, SORT = -13, SIZE = -14, PARTED = -15;
  static final int[] FAR = {Integer.MIN_VALUE, -1000, Integer.MAX_VALUE};

  private static int answers = 0;
  private static int wrong = 0;

  private Check() {
  }

  static void due(String call, int got, int want) {
    answers++;
    if (got == want) return;
    wrong++;
    System.out.println(call + " answered " + got + ", due is " + want);
  }

  static void end(String name) {
    System.out.println(name + ": " + answers + " answers, " + wrong + " wrong");
    if (wrong != 0) System.exit(1);
  }

  static void feed(PlayedTruth p, String text) {
    for (int from = 0; from < text.length(); from += 8) {
      int n = Math.min(8, text.length() - from);
      long eight = 0;
      for (int i = n - 1; i >= 0; i--) eight = eight << 8 | text.charAt(from + i);
      due("feed of " + text, p.feed(eight, n), from + n);
    }
  }

  static int tell(PlayedTruth p, String text) {
    feed(p, text);
    return p.rules();
  }

  /** All that can be asked of the stage, to see that a refused call changed nothing. */
  static String look(PlayedTruth p) {
    StringBuilder all = new StringBuilder();
    for (int k = 0; k < 6; k++) {
      for (int what = 0; what < 10; what++) all.append(p.sceneOf(k, what)).append(' ');
    }
    for (int what = 0; what < 7; what++) all.append(p.state(what)).append(' ').append(p.many(what)).append(' ');
    for (int f = 0; f < 6; f++) all.append(p.placeOf(f, 0)).append(p.placeOf(f, 1));
    for (int k = 0; k < 4; k++) {
      for (int what = 0; what < 3; what++) all.append(' ').append(p.row(k, what));
    }
    for (int sheet = 0; sheet < 4; sheet++) {
      for (int sort = 0; sort < 5; sort++) all.append(' ').append(p.item(sheet, sort, 0));
    }
    for (int shelf = 0; shelf < 4; shelf++) {
      for (int as = 0; as < 15; as++) all.append(' ').append(p.taken(shelf, as));
    }
    for (int i = 0; i < 12; i++) all.append(' ').append(p.trace(i));
    return all.toString();
  }

  static void same(String what, String before, String after) {
    due(what + " changed nothing", before.equals(after) ? 0 : 1, 0);
  }
}
