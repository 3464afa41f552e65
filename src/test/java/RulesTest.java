/** Promises 12 and 13: the tape and the rules. */
public final class RulesTest {
  private static final int BAD = Check.BAD, FULL = Check.FULL;

  public static void main(String[] args) {
    feed();
    tapeIsUsedUp();
    goodTexts();
    faults();
    faultsAtTheEnd();
    manyRules();
    brackets();
    whatRulesSay();
    signs();
    facts();
    precedence();
    whichRule();
    Check.end("RulesTest");
  }

  private static void due(String call, int got, int want) {
    Check.due(call, got, want);
  }

  private static void feed() {
    PlayedTruth p = new PlayedTruth();
    due("12 n 0", p.feed(0, 0), BAD);
    due("12 n 9", p.feed(0, 9), BAD);
    due("12 n -1", p.feed(0, -1), BAD);
    for (int v : Check.FAR) due("12 far", p.feed(0, v), BAD);
    due("12 nothing came", p.many(5), 0);
    due("12 one", p.feed(-1L, 1), 1);
    due("12 eight", p.feed(-1L, 8), 9);
    for (int i = 0; i < 23; i++) p.feed(0x2020202020202020L, 8);
    due("12 nearly full", p.many(5), 193);
    due("12 FULL", p.feed(0, 8), FULL);
    due("12 BAD is named ahead of FULL", p.feed(0, 9), BAD);
    due("12 stays", p.many(5), 193);
    due("12 just full", p.feed(0, 7), 200);
    due("12 FULL by one", p.feed(0, 1), FULL);
    // Only the n lowest bytes count, the lowest first: "duet", then bytes that don't come.
    p.rules();
    p.feed('d' | 'u' << 8 | 'e' << 16 | (long) 't' << 24 | 0x7777L << 32, 4);
    p.feed(0x3b7065656b20L, 6);
    due("12 the lowest first", p.rules(), 1);
  }

  private static void tapeIsUsedUp() {
    PlayedTruth p = new PlayedTruth();
    due("13 no byte", p.rules(), 0);
    due("13 one rule", Check.tell(p, "scene keep;"), 1);
    due("13 used up", p.many(5), 0);
    due("13 fault", Check.tell(p, "scene keep"), -110);
    due("13 used up by a fault", p.many(5), 0);
    due("13 the rules stay with a fault", p.many(1), 1);
    due("13 two rules in place of one", Check.tell(p, "match keep;duet trim;"), 2);
    due("13 many", p.many(1), 2);
    due("13 none in place of all", p.rules(), 0);
    due("13 many", p.many(1), 0);
    StringBuilder blanks = new StringBuilder();
    for (int i = 0; i < 200; i++) blanks.append(' ');
    Check.tell(p, "scene keep;");
    due("13 blanks alone", Check.tell(p, blanks.toString()), 0);
  }

  private static void goodTexts() {
    String[] texts = {"scene keep;", "  trial   mend  ;  ", "duet if 1<2 trim;", "duet if 1 < 2 trim ;",
        "sunset if night=truth keep;", "crowd if pretty>rail keep;", "match if number=0009 keep;",
        "match if 9999=0 keep;", "scene if not 1=1 keep;", "scene if not not not 1=1 keep;", "scene if(1=1)keep;",
        "scene if not(1=1)keep;", "scene if((1=1))keep;", "scene if(((1=1)))keep;", "scene if 1=1and 2=2or 3=3keep;",
        "scene if 1=1 and not 2=2 or not (3=3 or 4=4) and 5=5 keep;", "scene if(1=1)and(1=1)and(1=1)and(1=1)keep;",
        "scene if1=1keep;", "scene if 1=1or1=1keep;"};
    for (String text : texts) due("13 " + text, Check.tell(new PlayedTruth(), text), 1);
  }

  /** In each text the token at ! is the first that can't stand there. */
  private static void faults() {
    String[] texts = {"!c", "!keep", "!;", "!1", "!if", "!Scene keep;", "!scenes keep;", "!scenez keep;", "!zscene keep;", "!ascene keep;", "!scen keep;",
        "scene !scene", "scene !;", "scene !1<2 keep;", "scene !kee;", "scene !keeps;", "scene keep !keep", "scene keep !if 1=1;",
        "scene if !keep;", "scene if !<1 keep;", "scene if 1 !1 keep;", "scene if 1 !keep;", "scene if 1 < !keep;",
        "scene if 1 < !not 2 keep;", "scene if 1 < !(2) keep;", "scene if 1 < 2 !3 keep;", "scene if 1 < 2 !< 3 keep;",
        "scene if 1 < 2 !;", "scene if 1<2 and !keep;", "scene if 1<2 or !or 1<2 keep;", "scene if 1<2 !not 1<2 keep;",
        "scene if 1<2 !) keep;", "scene if (1<2 !keep;", "scene if (1<2 !;", "scene if (!) keep;", "scene if (1!) < 2 keep;",
        "scene if not !keep;", "scene if night !night keep;", "scene if !nights < 1 keep;", "scene if !scene < 1 keep;",
        "scene if !10000 < 1 keep;", "scene if !00000 < 1 keep;", "scene if 1 < !12345 keep;", "scene if 1 <!< 2 keep;",
        "scene if 1 !- 2 keep;", "scene !\tkeep;", "scene if 1 !\u00ff", "scene keep;!;", "scene keep; !keep;",
        "scene keep; scene!\u0000keep;", "scene if 1!_2 keep;", "scene if 1<2 !andd 1<2 keep;", "scene !iff 1<2 keep;",
        "scene if 1=2 !12345 keep;", "scene keep;!12345"};
    for (String text : texts) {
      int at = text.indexOf('!');
      String told = text.replace("!", "");
      due("13 fault of " + text, Check.tell(new PlayedTruth(), told), -100 - at);
    }
  }

  private static void faultsAtTheEnd() {
    String whole = "scene if not ( night < 12 and 1 = 1 ) or rail > 2 keep ;";
    for (int cut = 1; cut < whole.length(); cut++) {
      if (whole.charAt(cut - 1) != ' ') continue;
      due("13 more must come behind " + cut, Check.tell(new PlayedTruth(), whole.substring(0, cut)), -100 - cut);
    }
    due("13 whole", Check.tell(new PlayedTruth(), whole), 1);
    due("13 the end is behind the blanks", Check.tell(new PlayedTruth(), "duet    "), -108);
    due("13 half a name", Check.tell(new PlayedTruth(), "duet kee"), -105);
    StringBuilder full = new StringBuilder("duet");
    while (full.length() < 200) full.append(' ');
    due("13 the end of a full tape", Check.tell(new PlayedTruth(), full.toString()), -300);
    StringBuilder tight = new StringBuilder("duet if 1=1");
    while (tight.length() + 5 + 5 <= 200) tight.append("or1=1");
    while (tight.length() < 195) tight.append(' ');
    due("13 a full tape", Check.tell(new PlayedTruth(), tight + "keep;"), 1);
    StringBuilder wrong = new StringBuilder();
    for (int i = 0; i < 200; i++) wrong.append(';');
    due("13 all wrong", Check.tell(new PlayedTruth(), wrong.toString()), -100);
  }

  private static void manyRules() {
    StringBuilder text = new StringBuilder();
    for (int i = 0; i < 8; i++) text.append("duet keep;");
    due("13 eight", Check.tell(new PlayedTruth(), text.toString()), 8);
    due("13 the ninth", Check.tell(new PlayedTruth(), text + "  duet keep;"), -182);
    due("13 the ninth's first name alone", Check.tell(new PlayedTruth(), text + "duet"), -180);
    due("13 a fault ahead of the ninth", Check.tell(new PlayedTruth(), "duet duet" + text), -105);
    PlayedTruth p = new PlayedTruth();
    p.scene(5, 0, 0, 0);
    text.setLength(0);
    for (int i = 0; i < 7; i++) text.append("duet keep;");
    due("13 the eighth counts", Check.tell(p, text + "match trim;"), 8);
    due("13 the eighth counts", p.sceneOf(0, 9), 2);
  }

  private static void brackets() {
    due("13 the fourth bracket", Check.tell(new PlayedTruth(), "scene if((((1=1))))keep;"), -111);
    due("13 not within", Check.tell(new PlayedTruth(), "scene if(((not(1=1))))keep;"), -114);
    due("13 three, then three", Check.tell(new PlayedTruth(), "scene if(((1=1)))and(((1=1)))keep;"), 1);
    due("13 three, then four", Check.tell(new PlayedTruth(), "scene if(((1=1)))and((((1=1))))keep;"), -123);
    due("13 two, then two within one", Check.tell(new PlayedTruth(), "scene if(((1=1)or(1=1))and((1=1)))keep;"), 1);
  }

  private static int willBy(String text) {
    PlayedTruth p = new PlayedTruth();
    p.scene(1, 0, 0, 0);
    p.scene(1, 0, 0, 0);
    p.scene(3, 37, 6, 1);
    p.house(0, 13);
    due("13 " + text, Check.tell(p, text) > 0 ? 1 : 0, 1);
    return p.sceneOf(2, 9);
  }

  private static boolean holds(String cond) {
    return willBy("scene if " + cond + " trim;") == 2;
  }

  private static void so(String cond, boolean want) {
    due("13 whether " + cond, holds(cond) ? 1 : 0, want ? 1 : 0);
  }

  private static void whatRulesSay() {
    due("13 no rule for it", willBy("crowd trim;trial keep;match keep;"), 0);
    due("13 mend", willBy("sunset mend;sunset keep;"), 0);
    due("13 keep", willBy("sunset keep;"), 1);
    due("13 trim", willBy("sunset trim;"), 2);
  }

  private static void signs() {
    so("1 < 2", true);
    so("2 < 2", false);
    so("2 = 2", true);
    so("2 = 1", false);
    so("2 > 1", true);
    so("2 > 2", false);
    so("0010 = 10", true);
    so("9999 > 9998", true);
  }

  private static void facts() {
    so("night = 0", true);
    so("truth = 37", true);
    so("pretty = 6", true);
    so("rail = 3", true);
    so("number = 2", true);
    so("truth > pretty", true);
    so("rail < number", false);
    so("37 = truth", true);
    PlayedTruth p = new PlayedTruth();
    p.scene(2, 20, 0, 0);
    Check.tell(p, "scene if night = 1 and truth = 35 and rail = 1 trim;");
    p.house(1, 4);
    due("13 the facts ahead", p.sceneOf(0, 9), 0);
    p.night();
    due("13 the facts then", p.sceneOf(0, 9), 2);
    p.house(1, 8);
    due("13 the rail is another", p.sceneOf(0, 9), 0);
  }

  private static void precedence() {
    so("1=1 or 1=1 and 1=2", true);
    so("(1=1 or 1=1) and 1=2", false);
    so("1=2 and 1=1 or 1=1", true);
    so("1=2 and (1=1 or 1=1)", false);
    so("not 1=2 and 1=2", false);
    so("not (1=2 and 1=2)", true);
    so("not 1=1 or 1=1", true);
    so("not (1=1 or 1=1)", false);
    so("not not 1=1", true);
    so("not not not 1=1", false);
    so("1=2 or 1=2 or 1=1", true);
    so("1=1 and 1=1 and 1=2", false);
    so("1=1 and (1=2 or (1=1 and (1=2 or 1=1)))", true);
    so("1=1 and (1=2 or (1=1 and not (1=2 or 1=1)))", false);
    so("1=2 or 1=1 and (1=2 or 1=1 and (1=2 or 1=1 and (1=2 or 1=1 and 2=2)))", true);
    so("1=2 or 1=1 and (1=2 or 1=1 and (1=2 or 1=1 and (1=2 or 1=1 and 2=1)))", false);
  }

  private static void whichRule() {
    due("13 the first that holds", willBy("sunset if 1=2 keep;sunset trim;sunset keep;"), 2);
    due("13 scene is above all", willBy("scene keep;sunset trim;"), 1);
    due("13 duet is above sunset", willBy("duet trim;sunset keep;"), 2);
    due("13 crowd isn't", willBy("crowd trim;sunset keep;"), 1);
    String[] kinds = {"scene", "trial", "duet", "sunset", "crowd", "match"};
    int[] above = {0, 1, 1, 3, 1, 5};
    for (int kind = 1; kind <= 5; kind++) {
      PlayedTruth p = new PlayedTruth();
      p.scene(kind, 0, 0, 0);
      for (int told = 0; told <= 5; told++) {
        Check.tell(p, kinds[told] + " keep;");
        boolean isSo = told == 0 || told == kind || told == above[kind] - 1;
        due("13 a rule of " + kinds[told] + " for " + kinds[kind], p.sceneOf(0, 9), isSo ? 1 : 0);
      }
    }
  }
}
