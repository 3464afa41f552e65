/** The boundary cases of promises 12 and 13: the tape, the text, where its fault is, what its rules tell. */
public final class RulesBoundsTest extends Bounds {
  private static final String[] KINDS = {"scene", "trial", "duet", "sunset", "crowd", "match"};

  public static void main(String[] args) {
    feedCounts();
    feedOrder();
    feedFull();
    usedUp();
    inPlaceOfAll();
    refusedTextChangesNothing();
    eightRules();
    numbers();
    brackets();
    names();
    blanks();
    everyByteFirst();
    everyByteBetween();
    everyByteAsSign();
    moreMustCome();
    cutAnywhere();
    whatCannotStand();
    wholeTape();
    signs();
    factsAtTheirEnds();
    truthTables();
    threeBracketsDeep();
    firstThatTells();
    end("RulesBoundsTest", promises(12, 13));
  }

  private static int tell(String text) {
    return Check.tell(new PlayedTruth(), text);
  }

  /** The fault of a text in which a ! stands ahead of what can't stand there. */
  private static void fault(String text) {
    due("the fault of " + text, tell(text.replace("!", "")), -100 - text.indexOf('!'));
  }

  private static void good(String text, int rules) {
    due("rules of " + text, tell(text), rules);
  }

  // ---- the tape

  private static void feedCounts() {
    says(12, "n bytes (1 to 8) come to THE TAPE");
    int[] none = {-1, 0, 9, 16, 201, LEAST, MOST};
    for (int n : none) {
      refusedEverywhere("feed(0, " + n + ")", BAD, p -> p.feed(0, n));
      refusedEverywhere("feed(-1, " + n + ")", BAD, p -> p.feed(-1L, n));
    }
    for (int n = 1; n <= 8; n++) {
      PlayedTruth p = new PlayedTruth();
      due("feed of " + n, p.feed(-1L, n), n);
      due("many(5)", p.many(5), n);
      due("feed of " + n + " more", p.feed(0L, n), 2 * n);
    }
  }

  private static void feedOrder() {
    says(12, "the lowest of eight first: how many it has.");
    PlayedTruth p = new PlayedTruth();
    // What stands above the n lowest bytes doesn't come: each X would be a fault.
    due("1 of 8", p.feed(0x5858585858585800L | 'd', 1), 1);
    due("7 of 8", p.feed(0x5800000000000000L | 'u' | 'e' << 8 | 't' << 16 | 32 << 24 | (long) 'k' << 32
        | (long) 'e' << 40 | (long) 'e' << 48, 7), 8);
    due("2 of 8", p.feed(0x5858585858580000L | 'p' | ';' << 8, 2), 10);
    due("rules", p.rules(), 1);
    due("the eighth byte of eight", feedHighest(), -107);
  }

  /** Seven blanks, and above them a byte whose bit 7 is the sign of the long. */
  private static int feedHighest() {
    PlayedTruth p = new PlayedTruth();
    p.feed(0xff20202020202020L, 8);
    return p.rules();
  }

  private static void feedFull() {
    says(12, "FULL: more than 200.");
    for (int n = 1; n <= 8; n++) {
      int count = n;
      refused("feed of " + n + " on 200", FULL, Bounds::full, p -> p.feed(0, count));
      PlayedTruth p = new PlayedTruth();
      Check.feed(p, " ".repeat(200 - n));
      due("just 200 by " + n, p.feed(0x2020202020202020L, n), 200);
      if (n == 8) continue;
      refused("feed of " + (n + 1) + " on " + (200 - n), FULL, () -> {
        PlayedTruth q = new PlayedTruth();
        Check.feed(q, "duet keep;" + " ".repeat(190 - count));
        return q;
      }, q -> q.feed(0, count + 1));
    }
    says(12, "of several the first named: BAD (-1)");
    refused("feed of 9 on 200", BAD, Bounds::full, p -> p.feed(0, 9));
    refused("feed of 0 on 200", BAD, Bounds::full, p -> p.feed(0, 0));
  }

  // ---- what a text does

  private static void usedUp() {
    says(13, "rules() uses it up.");
    PlayedTruth p = new PlayedTruth();
    due("an empty tape", p.rules(), 0);
    Check.feed(p, "duet keep;");
    due("ten bytes", p.many(5), 10);
    due("read", p.rules(), 1);
    due("no bytes", p.many(5), 0);
    due("nothing of it is left", p.rules(), 0);
    says(13, "such a call changes nothing (but that THE TAPE is used up by rules())");
    Check.feed(p, "duet !");
    due("a fault", p.rules(), -105);
    due("no bytes", p.many(5), 0);
    due("the next text starts at 0", Check.tell(p, "duet !"), -105);
    due("five digits", Check.tell(p, "duet if 1=12345"), -110);
    due("four: what stood behind them ahead is gone", Check.tell(p, "duet if 1=1234"), -114);
    due("a longer name", Check.tell(p, "duet keeper;"), -105);
    due("a name: what stood behind it ahead is gone", Check.tell(p, "duet keep"), -109);
    Check.feed(p, "X".repeat(200));
    due("a fault in 200 bytes", p.rules(), -100);
    due("there is room again", p.feed(0, 8), 8);
  }

  private static void inPlaceOfAll() {
    says(13, "THE TAPE tells THE RULES (in place of all): how many; -100 less its FAULT.");
    PlayedTruth p = new PlayedTruth();
    p.scene(2, 0, 0, 0);
    p.scene(5, 0, 0, 0);
    due("two", Check.tell(p, "duet keep; match trim;"), 2);
    due("will of the duet", p.sceneOf(0, 9), 1);
    due("will of the match", p.sceneOf(1, 9), 2);
    due("one in their place", Check.tell(p, "duet trim;"), 1);
    due("will of the duet", p.sceneOf(0, 9), 2);
    due("will of the match, no rule any more", p.sceneOf(1, 9), 0);
    due("none in its place", Check.tell(p, " "), 0);
    due("many(1)", p.many(1), 0);
    due("will of the duet, no rule any more", p.sceneOf(0, 9), 0);
    due("the least fault", Check.tell(p, ";"), -100);
    due("the fault at 1", Check.tell(p, " ;"), -101);
    due("the fault at 199", Check.tell(p, " ".repeat(199) + ";"), -299);
    due("the fault at 200, the end", Check.tell(p, " ".repeat(195) + "scene"), -300);
  }

  private static void refusedTextChangesNothing() {
    says(13, "such a call changes nothing (but that THE TAPE is used up by rules())");
    String[] wrong = {"!", "scene keep; scene", "scene trim; scene keep; match mend; duet if", "scene keep;".repeat(9),
        "scene if 12345 = 1 keep;", "scene if ((((1=1)))) keep;", " ".repeat(195) + "scene"};
    int[] faults = {0, 17, 43, 88, 9, 12, 200};
    for (int i = 0; i < wrong.length; i++) {
      String text = wrong[i];
      refused("rules of " + text, -100 - faults[i], Bounds::usualWithoutTape, p -> Check.tell(p, text));
      refused("rules of " + text + ", none ahead", -100 - faults[i], PlayedTruth::new, p -> Check.tell(p, text));
    }
    due("the rules that there were", Bounds.usualWithoutTape().many(1), 2);
  }

  private static void eightRules() {
    says(13, "8 RULES at most.");
    for (int n = 0; n <= 8; n++) good("duet keep;".repeat(n), n);
    says(13, "the first NAME of the ninth RULE, too");
    String eight = "duet keep;".repeat(8);
    fault(eight + "!duet keep;");
    fault(eight + "  !scene");
    fault(eight + "!duet duet");
    fault(eight + "!x");
    fault(eight + "!;");
    good(eight + "   ", 8);
    fault("duet keep;".repeat(7) + "duet keep!");
    fault("duet keep;".repeat(3) + "duet !;" + "duet keep;".repeat(8));
    PlayedTruth p = new PlayedTruth();
    p.scene(5, 0, 0, 0);
    due("the eighth counts", Check.tell(p, "duet keep;".repeat(7) + "match trim;"), 8);
    due("the eighth counts", p.sceneOf(0, 9), 2);
  }

  private static void numbers() {
    says(13, "N are NUMBERS 0 to 9999.");
    String[] taken = {"0", "9", "10", "99", "100", "999", "1000", "9999", "00", "0000", "0009", "0099"};
    for (String n : taken) {
      good("scene if " + n + "=1 keep;", 1);
      good("scene if 1=" + n + " keep;", 1);
    }
    says(13, "rows of digits (1 to 4)");
    String[] longer = {"00000", "00001", "10000", "99999", "123456", "0".repeat(50)};
    for (String n : longer) {
      fault("scene if !" + n + " = 1 keep;");
      fault("scene if 1 = !" + n + " keep;");
      fault("scene if 1 = !" + n + "keep;");
    }
    says(13, "a NUMBER of more digits");
    fault("!12345");
    fault("scene !12345");
    fault("scene if 1=1 !12345");
    fault("scene keep;!12345");
    says(13, "both as long as they go");
    fault("scene if 1 !1 = 2 keep;");
    good("scene if 11 = 2 keep;", 1);
    fault("scene if 0000 !0 = 2 keep;");
  }

  private static void brackets() {
    says(13, "At most 3 \"(\" are open within one another.");
    good("scene if (1=1) keep;", 1);
    good("scene if ((1=1)) keep;", 1);
    good("scene if (((1=1))) keep;", 1);
    says(13, "the fourth \"(\"");
    fault("scene if (((!(1=1)))) keep;");
    fault("scene if (((!(");
    fault("scene if (((1=1 and !(1=1)))) keep;");
    fault("scene if (((not not !(1=1)))) keep;");
    fault("scene if ((1=1) and ((1=1 or !(1=1)))) keep;");
    good("scene if (((1=1) and (1=1)) or (1=1)) and (((1=1))) keep;", 1);
    good("scene if " + "(1=1)or".repeat(24) + "1=1 keep;", 1);
    good("scene if not (not (not (not 1=1))) keep;", 1);
    fault("scene if (((1=1)))!) keep;");
    fault("scene if (((1=1)) !keep;");
    fault("scene if (!) keep;");
  }

  private static void names() {
    says(13, "NAMES are rows of letters a to z");
    for (String kind : KINDS) {
      good(kind + " keep;", 1);
      fault("!" + kind + "s keep;");
      fault("!" + kind.substring(1) + " keep;");
      fault("!" + kind.substring(0, kind.length() - 1) + " keep;");
      fault("!" + kind.toUpperCase() + " keep;");
    }
    String[] deeds = {"mend", "keep", "trim"};
    for (String deed : deeds) {
      good("scene " + deed + ";", 1);
      fault("scene !" + deed + "s;");
      fault("scene !" + deed.substring(1) + ";");
      fault("scene !" + deed.substring(0, 3) + ";");
    }
    says(13, "both as long as they go");
    fault("!scenekeep;");
    fault("scene !ifnot 1=1 keep;");
    fault("scene if !notnight = 1 keep;");
    good("scene if1=1and not2=2or not night=night keep;", 1);
    fault("scene if 1=1 !ornot 1=1 keep;");
    fault("!" + "s".repeat(200));
  }

  private static void blanks() {
    says(13, "blanks (32) part them, and stand elsewhere as one likes.");
    good(" ".repeat(200), 0);
    good("  scene   if  (  1   =   1  )   and   not   2   <   3   keep   ;   ", 1);
    good("scene if(1=1)and not 2<3keep;", 1);
    fault("!sce ne keep;");
    fault("scene if 1 !2 = 12 keep;");
    good("scene keep;scene keep;", 2);
    good("scene keep ; scene keep ;", 2);
  }

  private static boolean isLetter(int b) {
    return b >= 'a' && b <= 'z';
  }

  private static boolean isDigit(int b) {
    return b >= '0' && b <= '9';
  }

  private static void everyByteFirst() {
    says(13, "the first NAME, NUMBER or other byte that can't stand there");
    for (int b = 0; b <= 255; b++) {
      String text = String.valueOf((char) b);
      due("byte " + b + " alone", tell(text), b == ' ' ? 0 : -100);
      due("byte " + b + " behind a blank", tell(" " + text), b == ' ' ? 0 : -101);
      due("byte " + b + " behind a rule", tell("duet keep;" + text), b == ' ' ? 1 : -110);
    }
  }

  private static void everyByteBetween() {
    says(13, "blanks (32) part them");
    for (int b = 0; b <= 255; b++) {
      int want = b == ' ' ? 1 : isLetter(b) ? -100 : -105;
      due("byte " + b + " between names", tell("scene" + (char) b + "keep;"), want);
      int behind = b == ' ' || b == ';' ? 1 : isLetter(b) ? -106 : -110;
      due("byte " + b + " behind the deed", tell("scene keep" + (char) b + (b == ';' ? "" : ";")), behind);
    }
  }

  private static void everyByteAsSign() {
    says(13, "SIGN: < | = | >");
    for (int b = 0; b <= 255; b++) {
      int want = b == '<' || b == '=' || b == '>' ? 1 : isDigit(b) ? -113 : b == ' ' ? -111 : -110;
      due("byte " + b + " as a sign", tell("scene if 1" + (char) b + "2 keep;"), want);
    }
  }

  private static void moreMustCome() {
    says(13, "or the end (how many bytes there are), if more must come.");
    String whole = "scene if not ( night < 12 and ( 1 = truth ) ) or rail > 2 keep ;";
    for (int cut = 1; cut < whole.length(); cut++) {
      if (whole.charAt(cut - 1) == ' ') continue;
      if (whole.charAt(cut) != ' ') continue;
      due("cut at " + cut, tell(whole.substring(0, cut)), -100 - cut);
      due("cut at " + cut + ", blanks behind", tell(whole.substring(0, cut) + "   "), -103 - cut);
    }
    good(whole, 1);
    due("a whole rule and a cut one", tell(whole + "duet"), -100 - whole.length() - 4);
    due("a cut one of 200 bytes", tell("duet" + " ".repeat(196)), -300);
    due("a cut one of 199 bytes", tell("duet" + " ".repeat(195)), -299);
  }

  /** A text without blanks, cut anywhere: in a name the rest of it can't stand, elsewhere more must come. */
  private static void cutAnywhere() {
    says(13, "FAULT: the place (from 0) of the first byte of the first NAME, NUMBER or other byte that can't stand there");
    String whole = "sunset if truth>12 and not rail=3 trim;";
    int[] starts = {0, 7, 10, 15, 16, 19, 23, 27, 31, 32, 34, 38};
    int[] ends = {6, 9, 15, 16, 18, 22, 26, 31, 32, 33, 38, 39};
    for (int cut = 1; cut < whole.length(); cut++) {
      int want = cut;
      for (int t = 0; t < starts.length; t++) {
        boolean isName = isLetter(whole.charAt(starts[t]));
        if (isName && cut > starts[t] && cut < ends[t]) want = starts[t];
      }
      due("cut at " + cut, tell(whole.substring(0, cut)), -100 - want);
    }
    good(whole, 1);
  }

  /** In each place of the text: the names and signs that can stand elsewhere, but not there. */
  private static void whatCannotStand() {
    says(13, "TEXT: { KIND DO ; | KIND if COND DO ; }");
    String[] all = {"scene", "match", "mend", "trim", "if", "not", "and", "or", "night", "number", "<", "=", ">", "(", ")",
        ";", "0", "9999"};
    String[] ahead = {"", "scene ", "scene if ", "scene if not ", "scene if ( ", "scene if 1 ", "scene if 1 = ",
        "scene if 1 = 1 ", "scene if ( 1 = 1 ", "scene if ( 1 = 1 ) ", "scene if 1 = 1 and ", "scene if 1 = 1 or ",
        "scene if 1 = 1 keep ", "scene keep ", "scene keep ; "};
    String[] can = {"scene match", "mend trim if", "not night number ( 0 9999", "not night number ( 0 9999",
        "not night number ( 0 9999", "< = >", "night number 0 9999", "mend trim and or", "and or )", "mend trim and or",
        "not night number ( 0 9999", "not night number ( 0 9999", ";", ";", "scene match"};
    for (int a = 0; a < ahead.length; a++) {
      for (String token : all) {
        boolean isGood = (" " + can[a] + " ").contains(" " + token + " ");
        String text = ahead[a] + token;
        boolean isWhole = isGood && token.equals(";");
        int want = isWhole ? 1 : isGood ? -100 - text.length() : -100 - ahead[a].length();
        due("behind '" + ahead[a] + "' comes '" + token + "'", tell(text), want);
      }
    }
  }

  private static void wholeTape() {
    says(13, "THE TAPE takes bytes, 200 at most");
    String text = "scene if " + "1=1or ".repeat(30);
    good(text + "1=1   keep;", 1);
    due("two hundred bytes", (text + "1=1   keep;").length(), 200);
    PlayedTruth p = new PlayedTruth();
    p.scene(1, 0, 0, 0);
    due("the last of as many as there is room for holds", Check.tell(p, "scene if " + "1=2or ".repeat(30) + "1=1   trim;"), 1);
    due("will", p.sceneOf(0, 9), 2);
    due("a not more and more", Check.tell(p, "trial if " + "not ".repeat(45) + "1=2 trim;"), 1);
    due("will", p.sceneOf(0, 9), 2);
    due("a not more", Check.tell(p, "trial if " + "not ".repeat(44) + "1=2 trim;"), 1);
    due("will", p.sceneOf(0, 9), 0);
    due("signs enough", Check.tell(p, "trial if" + "(1<2)and".repeat(22) + "1>2trim;"), 1);
    due("will", p.sceneOf(0, 9), 0);
    due("a number is the last of 200 bytes", tell("duet if 1" + " ".repeat(187) + "=999"), -300);
    due("five digits are the last of 200 bytes", tell("duet if 1" + " ".repeat(185) + "=99999"), -295);
    due("a name is the last of 200 bytes", tell("duet if 1" + " ".repeat(185) + "=truth"), -300);
    due("half a name is the last of 200 bytes", tell("duet if 1" + " ".repeat(187) + "=tru"), -297);
    due("200 bytes without a blank", tell("duet if" + "1=1or".repeat(37) + "1=1keep;"), 1);
    due("200 bytes without a blank", "duet if".length() + 5 * 37 + "1=1keep;".length(), 200);
  }

  // ---- what rules tell

  private static int will(PlayedTruth p, int k, String cond) {
    due("rules: " + cond, Check.tell(p, "scene if " + cond + " trim;"), 1);
    return p.sceneOf(k, 9) / 2;
  }

  private static void signs() {
    says(13, "SIGN: < | = | >");
    PlayedTruth p = new PlayedTruth();
    p.scene(1, 0, 0, 0);
    String[] pairs = {"0 0", "0 1", "1 0", "9999 9999", "9998 9999", "9999 9998", "0009 9", "10 9"};
    for (String pair : pairs) {
      int left = Integer.parseInt(pair.split(" ")[0]);
      int right = Integer.parseInt(pair.split(" ")[1]);
      due(pair + " <", will(p, 0, pair.replace(" ", "<")), left < right ? 1 : 0);
      due(pair + " =", will(p, 0, pair.replace(" ", "=")), left == right ? 1 : 0);
      due(pair + " >", will(p, 0, pair.replace(" ", ">")), left > right ? 1 : 0);
    }
  }

  private static void factsAtTheirEnds() {
    says(13, "FACTS: the NIGHT that goes by; its TRUTH, its PRETTY, the RAIL of that NIGHT; its number.");
    PlayedTruth p = new PlayedTruth();
    for (int k = 0; k < 6; k++) p.scene(1, k == 5 ? 99 : 0, k == 5 ? 9 : 0, 0);
    int[] ks = {0, 5};
    for (int k : ks) {
      due("truth of " + k, will(p, k, "truth = " + (k == 5 ? 99 : 0)), 1);
      due("truth of " + k + " isn't more", will(p, k, "truth > " + (k == 5 ? 99 : 0)), 0);
      due("pretty of " + k, will(p, k, "pretty = " + (k == 5 ? 9 : 0)), 1);
      due("number of " + k, will(p, k, "number = " + k), 1);
    }
    for (int house = 0; house <= 15; house++) {
      p.house(0, house);
      due("rail of house " + house, will(p, 0, "rail = " + house / 4), 1);
    }
    due("night 0", will(p, 0, "night = 0 and not night > 0"), 1);
    p.ends(16);
    p.house(15, 12);
    for (int i = 0; i < 15; i++) p.night();
    due("night 15", will(p, 0, "night = 15 and rail = 3"), 1);
    p.night();
    due("night 16, no rail", will(p, 0, "night = 16 and rail = 0"), 1);
    p.change(5, 1, 99);
    due("facts on both sides", will(p, 5, "truth > pretty and pretty > number and number < night"), 1);
    due("facts on both sides", will(p, 5, "truth < pretty or pretty = number or rail > night"), 0);
    due("a fact on the right", will(p, 5, "99 = truth and 9 = pretty and 16 = night and 0 = rail and 5 = number"), 1);
    due("a number no fact comes to", will(p, 5, "truth < 9999 and night < 17"), 1);
    says(13, "the NIGHT that goes by");
    PlayedTruth q = new PlayedTruth();
    q.scene(1, 10, 0, 0);
    Check.tell(q, "trial if night = 0 and truth = 10 and rail = 2 keep;");
    q.house(1, 4);
    due("kept in the first night: it draws alone", q.night(), 9);
    due("mended in the second", q.night(), 8 + 9);
  }

  /** What holds and what doesn't, as a comparison. */
  private static String told(boolean isSo) {
    return isSo ? "3 > 2" : "2 > 3";
  }

  private static void truthTables() {
    says(13, "COND: ALL { or ALL } ALL: ONE { and ONE } ONE: { not } ( VALUE SIGN VALUE | \"(\" COND \")\" )");
    PlayedTruth p = new PlayedTruth();
    p.scene(1, 0, 0, 0);
    for (int bits = 0; bits < 8; bits++) {
      boolean a = (bits & 1) != 0;
      boolean b = (bits & 2) != 0;
      boolean c = (bits & 4) != 0;
      String[] conds = {"A", "not A", "not not A", "A and B", "A or B", "not A and B", "not A or B", "not (A and B)",
          "not (A or B)", "A or B and C", "A and B or C", "(A or B) and C", "A and (B or C)", "A and B and C", "A or B or C",
          "A or not B and not C", "not (not A and not B) and C", "A and not (B or C)"};
      boolean[] want = {a, !a, a, a && b, a || b, !a && b, !a || b, !(a && b), !(a || b), a || b && c, a && b || c,
          (a || b) && c, a && (b || c), a && b && c, a || b || c, a || !b && !c, (a || b) && c, a && !(b || c)};
      for (int i = 0; i < conds.length; i++) {
        String cond = conds[i].replace("A", told(a)).replace("B", told(b)).replace("C", told(c));
        due(cond, will(p, 0, cond), want[i] ? 1 : 0);
      }
    }
  }

  private static void threeBracketsDeep() {
    says(13, "At most 3 \"(\" are open within one another.");
    PlayedTruth p = new PlayedTruth();
    p.scene(1, 0, 0, 0);
    for (int bits = 0; bits < 128; bits++) {
      boolean[] is = new boolean[7];
      for (int i = 0; i < 7; i++) is[i] = (bits >> i & 1) != 0;
      String cond = "A or B and (C or D and (E or F and (G or A and B)))";
      for (int i = 0; i < 7; i++) cond = cond.replace(String.valueOf((char) ('A' + i)), told(is[i]).replace(" ", ""));
      boolean inmost = is[6] || is[0] && is[1];
      boolean want = is[0] || is[1] && (is[2] || is[3] && (is[4] || is[5] && inmost));
      due(cond, will(p, 0, cond), want ? 1 : 0);
    }
  }

  private static void firstThatTells() {
    says(13, "the first of THE RULES whose KIND is its or above it, and whose condition holds, tells it.");
    String[] above = {"scene trial", "scene duet", "scene duet sunset", "scene crowd", "scene crowd match"};
    for (int kind = 1; kind <= 5; kind++) {
      PlayedTruth p = new PlayedTruth();
      p.scene(kind, 7, 3, 0);
      for (String told : KINDS) {
        boolean isTold = (" " + above[kind - 1] + " ").contains(" " + told + " ");
        Check.tell(p, told + " trim; scene keep;");
        due("a rule of " + told + " ahead of all, " + KINDS[kind], p.sceneOf(0, 9), isTold ? 2 : 1);
        Check.tell(p, told + " if truth = 8 trim;" + told + " if truth = 7 keep;" + told + " trim;");
        due("the second that holds of " + told + ", " + KINDS[kind], p.sceneOf(0, 9), isTold ? 1 : 0);
        Check.tell(p, told + " if truth = 8 keep;" + told + " trim;");
        due("one without a condition behind one that doesn't hold", p.sceneOf(0, 9), isTold ? 2 : 0);
      }
    }
  }
}
