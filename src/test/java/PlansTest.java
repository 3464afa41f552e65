/** Promises 23 to 29 and 37 to 40: plans, the game, rows. */
public final class PlansTest {
  private static final int BAD = Check.BAD, NONE = Check.NONE, NO_ROW = -9;

  public static void main(String[] args) {
    bestByHand();
    manyWays();
    lengths();
    bill();
    bars();
    game();
    play();
    prove();
    alterRow();
    judge();
    wrongNumbers();
    askingChangesNothing();
    Check.end("PlansTest");
  }

  private static void due(String call, int got, int want) {
    Check.due(call, got, want);
  }

  /** A trial of 44 in place 0, on which a crowd of 20 in place 1 can lean. */
  private static PlayedTruth two() {
    PlayedTruth p = new PlayedTruth();
    p.scene(1, 44, 0, 0);
    p.scene(4, 20, 8, 1);
    return p;
  }

  private static void bestByHand() {
    PlayedTruth p = two();
    // The trial learns 16 + 4 and is settled; the crowd draws (18 - 2) / 2.
    due("23 best(1)", p.best(1), 20 + 9 + 8);
    due("24 ith(1, 0)", p.ith(1, 0), 1);
    due("25 ways(1)", p.ways(1), 1);
    // Behind it the crowd learns 14 + 5: 38, and draws (18 - 4) / 2.
    due("23 best(2)", p.best(2), 37 + 19 + 9 + 7);
    due("24 ith(2, 0)", p.ith(2, 0), 1);
    due("24 ith(2, 1)", p.ith(2, 1), 2);
    due("25 ways(2)", p.ways(2), 1);
    due("24 no third", p.ith(2, 2), NONE);
    due("23 best(0)", p.best(0), 0);
    due("25 ways(0)", p.ways(0), 1);
    due("24 no first", p.ith(0, 0), NONE);
  }

  private static void manyWays() {
    PlayedTruth p = new PlayedTruth();
    due("23 without scenes", p.best(4), 0);
    due("25 without scenes", p.ways(4), 1);
    due("24 without scenes", p.ith(4, 3), 0);
    for (int k = 0; k < 6; k++) p.scene(1, 0, 0, 0);
    Check.tell(p, "scene keep;");
    due("23 all are kept", p.best(4), 4 * 54);
    due("25 all plans are best", p.ways(4), 2401);
    due("25 all plans are best", p.ways(3), 343);
    for (int i = 0; i < 4; i++) due("24 the first of them", p.ith(4, i), 0);
    Check.tell(p, "trial if number < 4 keep; trial trim;");
    p.house(0, 0);
    due("25 no critics: 7 ways; then 4 or 5", p.ways(2), 7 * 2);
    due("24 0 ahead of what counts the same", p.ith(2, 0), 0);
    due("24 the lesser of 5 and 6", p.ith(2, 1), 5);
    due("23 best", p.best(2), 54 + 54 + 2);
    for (int k = 0; k < 6; k++) p.change(k, 4, 1);
    due("25 settled ones told are as none", p.ways(1), 7);
    due("24 settled ones told are as none", p.ith(1, 0), 0);
  }

  private static void lengths() {
    PlayedTruth p = two();
    p.ends(2);
    due("23 no more than there are", p.best(4), p.best(2));
    due("24 two acts", p.ith(4, 1), 2);
    due("24 no third", p.ith(4, 2), NONE);
    p.night();
    p.night();
    due("23 over", p.best(4), 0);
    due("25 over", p.ways(4), 1);
    due("24 over", p.ith(4, 0), NONE);
    due("26 over, settled", p.bill(4, 1), 0);
    due("26 over, not settled", p.bill(4, 2), NONE);
    due("27 over", p.bars(4, 3), 1);
    due("28 over", p.game(4), 0);
    due("29 over", p.play(4), NONE);
    due("37 over", p.prove(4), 0);
  }

  private static void bill() {
    PlayedTruth p = two();
    due("26 nothing", p.bill(0, 0), 0);
    due("26 nothing", p.bill(4, 0), 0);
    due("26 not by 0", p.bill(0, 1), NONE);
    due("26 by one act", p.bill(1, 1), 1);
    due("26 by one act of four", p.bill(4, 1), 1);
    due("26 by two acts: no", p.bill(2, 2), NONE);
    // It learns 14 and fades by 1, night by night.
    due("26 crowd of 20: 33, 46, 60", crowd(20, 3), 3);
    due("26 crowd of 19: 32, 45, 58", crowd(19, 3), NONE);
    due("26 crowd of 19 by four", crowd(19, 4), 4);
    due("26 both", bothBill(), 4);
    p.change(0, 4, 1);
    due("26 settled now", p.bill(0, 1), 0);
  }

  private static int crowd(int truth, int n) {
    PlayedTruth p = new PlayedTruth();
    p.scene(4, truth, 8, 1);
    return p.bill(n, 1);
  }

  private static int bothBill() {
    PlayedTruth p = two();
    p.change(1, 1, 10);
    return p.bill(4, 3);
  }

  private static void bars() {
    PlayedTruth p = two();
    due("27 nothing", p.bars(0, 0), NONE);
    due("27 by 0", p.bars(0, 3), 0);
    due("27 by 0", p.bars(0, 2), 1);
    due("27 by one", p.bars(1, 3), 1);
    due("27 by one, not asked of", p.bars(1, 1), NONE);
    p.scene(1, 44, 0, 5);
    due("27 each by a plan of its own", p.bars(1, 5), NONE);
    due("26 but not both by one", p.bill(1, 5), NONE);
    p.change(1, 4, 1);
    due("27 settled now", p.bars(0, 2), NONE);
  }

  private static void game() {
    PlayedTruth p = two();
    due("28 one", p.game(1), 37);
    // Behind the trial's 37 the other one tells none: 9, and 8 of the crowd, 19 true.
    due("28 two", p.game(2), 37 + 9 + 8);
    due("29 two", p.play(2), 1);
    p.ends(1);
    due("28 no more nights", p.game(4), 37);
  }

  private static void play() {
    PlayedTruth p = new PlayedTruth();
    due("28 without scenes", p.game(4), 0);
    due("29 without scenes", p.play(4), 0);
    p.scene(1, 0, 0, 0);
    p.scene(1, 0, 0, 0);
    due("29 the least of two as good", p.play(1), 1);
    Check.tell(p, "scene keep;");
    due("29 the least of all", p.play(4), 0);
    due("28 all the same", p.game(4), 72);
    // Trimming makes the duet draw more by 4, so the other one, if any trims, loses by it and tells none.
    PlayedTruth q = new PlayedTruth();
    q.scene(2, 0, 0, 0);
    Check.tell(q, "duet trim;");
    due("28 trim, then none", q.game(2), 2 + 12 + 12);
    due("28 trim, none, trim", q.game(3), 2 + 12 + 12 + 2 + 14);
    due("29 trim", q.play(3), 1);
  }

  private static void prove() {
    PlayedTruth p = two();
    due("38 none yet", p.row(0, 0), NO_ROW);
    due("37 two rows", p.prove(2), 2);
    int[][] rows = {{1, 37, 1}, {2, 35, 1}};
    for (int k = 0; k < 2; k++) {
      for (int what = 0; what < 3; what++) due("38 row", p.row(k, what), rows[k][what]);
    }
    due("38 no third", p.row(2, 0), NO_ROW);
    due("38 row -1", p.row(-1, 0), NO_ROW);
    due("38 what 3", p.row(0, 3), NO_ROW);
    due("38 what -1", p.row(0, -1), NO_ROW);
    for (int v : Check.FAR) {
      due("38 far", p.row(v, 0), NO_ROW);
      due("38 far", p.row(0, v), NO_ROW);
    }
    due("37 BAD", p.prove(5), BAD);
    due("37 the rows stay", p.many(4), 2);
    due("37 four", p.prove(4), 4);
    due("37 one in place of all", p.prove(1), 1);
    due("38 the others are gone", p.row(1, 0), NO_ROW);
    due("37 none", p.prove(0), 0);
    due("38 none", p.row(0, 0), NO_ROW);
  }

  private static void alterRow() {
    PlayedTruth p = two();
    due("39 none", p.alterRow(0, 0, 0), NO_ROW);
    p.prove(2);
    due("39 worth", p.alterRow(1, 1, -7), 35);
    due("39 again", p.alterRow(1, 1, 35), -7);
    due("39 far", p.alterRow(0, 2, Integer.MIN_VALUE), 1);
    due("39 far", p.row(0, 2), Integer.MIN_VALUE);
    due("39 the others stay", p.row(0, 1), 37);
    due("39 row 2", p.alterRow(2, 0, 0), NO_ROW);
    due("39 row -1", p.alterRow(-1, 0, 0), NO_ROW);
    due("39 what 3", p.alterRow(0, 3, 0), NO_ROW);
    due("39 what -1", p.alterRow(0, -1, 0), NO_ROW);
  }

  private static void judge() {
    PlayedTruth p = two();
    due("40 no rows", p.judge(), 0);
    p.prove(3);
    due("40 right", p.judge(), 0);
    for (int k = 0; k < 3; k++) {
      for (int what = 0; what < 3; what++) {
        int was = p.alterRow(k, what, p.row(k, what) + 4);
        due("40 wrong", p.judge(), k + 1);
        p.alterRow(k, what, was);
      }
    }
    p.alterRow(0, 0, 3);
    due("40 no such act", p.judge(), 1);
    p.alterRow(0, 0, -1);
    due("40 no such act", p.judge(), 1);
    p.alterRow(0, 0, Integer.MIN_VALUE);
    due("40 no such act", p.judge(), 1);
    p.alterRow(0, 0, 1);
    due("40 right again", p.judge(), 0);
    p.ends(2);
    due("40 over ahead of the third", p.judge(), 3);
    p.ends(12);
    p.change(1, 2, 0);
    due("40 from how it is now", p.judge(), 1);
    plansThatAreNotBest();
  }

  private static void plansThatAreNotBest() {
    PlayedTruth p = two();
    p.prove(1);
    p.alterRow(0, 0, 0);
    p.alterRow(0, 1, 17);
    p.alterRow(0, 2, 0);
    due("40 right, though not best", p.judge(), 0);
  }

  private static void wrongNumbers() {
    PlayedTruth p = two();
    int[] wrongs = {-1, 5, Integer.MIN_VALUE, Integer.MAX_VALUE};
    for (int n : wrongs) {
      due("23 n", p.best(n), BAD);
      due("24 n", p.ith(n, 0), BAD);
      due("25 n", p.ways(n), BAD);
      due("26 n", p.bill(n, 0), BAD);
      due("27 n", p.bars(n, 0), BAD);
      due("28 n", p.game(n), BAD);
      due("29 n", p.play(n), BAD);
      due("37 n", p.prove(n), BAD);
    }
    due("28 n 0", p.game(0), BAD);
    due("29 n 0", p.play(0), BAD);
    due("24 i -1", p.ith(4, -1), BAD);
    due("24 i 4", p.ith(4, 4), BAD);
    due("24 i 4, which it has not either", p.ith(0, 4), BAD);
    int[] sets = {-1, 4, 7, 64, Integer.MIN_VALUE, Integer.MAX_VALUE};
    for (int set : sets) {
      due("26 set", p.bill(4, set), BAD);
      due("27 set", p.bars(4, set), BAD);
    }
    p.ends(1);
    p.night();
    due("29 BAD is named ahead of NONE", p.play(0), BAD);
  }

  private static void askingChangesNothing() {
    PlayedTruth p = two();
    p.night();
    p.prove(2);
    String before = Check.look(p);
    p.best(3);
    p.ith(3, 1);
    p.ways(3);
    p.bill(3, 2);
    p.bars(3, 2);
    p.game(3);
    p.play(3);
    p.judge();
    Check.same("23 to 29, 40", before, Check.look(p));
    due("z", p.seed(1), 1);
    p.prove(0);
    p.prove(2);
    Check.same("37 but for the rows", before, Check.look(p));
  }
}
