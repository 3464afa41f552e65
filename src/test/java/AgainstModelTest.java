import java.lang.reflect.InvocationTargetException;
import java.lang.reflect.Method;
import java.util.ArrayList;
import java.util.Arrays;
import java.util.List;
import java.util.Random;

/** Random runs of calls (always the same ones), each answer held against the model's. */
public final class AgainstModelTest {
  private static final int RUNS = 1500, CALLS = 300, MOST_WRONG = 20;

  /** A call with the range from which most of its arguments come. */
  private record Call(String name, int weight, int... ranges) {
  }

  private static final List<Call> CALLS_OF = List.of(
      new Call("scene", 6, 0, 6, 0, 99, 0, 9, 0, 5), new Call("sceneOf", 12, 0, 6, -1, 10),
      new Call("change", 6, 0, 6, 0, 5, -1, 99), new Call("change", 4, 0, 6, 3, 4, 0, 5),
      new Call("remake", 2, 0, 6, 0, 6), new Call("house", 4, -1, 16, -1, 16), new Call("place", 5, -1, 6, -1, 2, -1, 10),
      new Call("placeOf", 2, -1, 6, -1, 2), new Call("ends", 2, 0, 17), new Call("anew", 2), new Call("state", 8, -1, 7),
      new Call("night", 4), new Call("on", 4, -1, 17), new Call("when", 4, -1, 6), new Call("prettyFor", 2, -1, 6),
      new Call("placeFor", 2, -1, 6), new Call("truth", 4, -1, 500), new Call("props", 3, -1, 6),
      new Call("strands", 4, -2, 6), new Call("billing", 4, -1, 150), new Call("best", 2, -1, 5), new Call("ith", 2, -1, 5, -1, 4),
      new Call("ways", 2, -1, 5), new Call("bill", 3, -1, 5, -1, 64), new Call("bill", 3, 3, 4, 0, 7), new Call("bars", 3, -1, 5, -1, 64),
      new Call("game", 1, 0, 5), new Call("play", 1, 0, 5), new Call("report", 4, -1, 16, 0, 0, 0, 60, 30, 99),
      new Call("report", 4, -1, 16, -1, 2, -1, 300, 30, 1000), new Call("forget", 2), new Call("lone", 4, -1, 4),
      new Call("liar", 3), new Call("seed", 2, -1000, 1000), new Call("lot", 3), new Call("times", 2, 0, 41, -1, 1000),
      new Call("prove", 2, -1, 5), new Call("row", 3, -1, 4, -1, 3), new Call("alterRow", 2, -1, 4, -1, 3, -1, 90),
      new Call("judge", 4), new Call("sheet", 5, -1, 4, -2, 5, -1, 41), new Call("sheet", 2, 0, 1, 0, 0, 5, 20),
      new Call("write", 6, -1, 4, -1, 20, -1, 300), new Call("write", 8, 0, 1, 0, 10, 0, 7), new Call("item", 6, -1, 4, -1, 5, -1, 20),
      new Call("goAll", 2, -1, 4, -1, 6, -1, 21), new Call("goAll", 2, 0, 1, 0, 4, 0, 4), new Call("wouldBe", 3, -1, 4, -1, 6, -1, 21),
      new Call("wouldBe", 3, 0, 1, 0, 4, 0, 4), new Call("shelf", 5, -1, 4, -1, 3, -1, 6), new Call("taken", 6, -1, 4, -1, 15),
      new Call("act", 8, 0, 3, 0, 3, -999, 999), new Call("act", 2, -1, 4, -1, 4, -999, 999), new Call("trace", 8, -1, 12),
      new Call("many", 8, -1, 7), new Call("keep", 2), new Call("again", 2));

  private final Random random;
  private final PlayedTruth real = new PlayedTruth();
  private final Model model = new Model();
  private final List<String> log = new ArrayList<>();
  private int wrong = 0;
  private int done = 0;

  private AgainstModelTest(long seed) {
    random = new Random(seed);
  }

  public static void main(String[] args) throws Exception {
    int wrong = 0;
    long calls = 0;
    for (int run = 0; run < RUNS && wrong < MOST_WRONG; run++) {
      AgainstModelTest test = new AgainstModelTest(run);
      test.run(run);
      wrong += test.wrong;
      calls += test.done;
    }
    System.out.println(calls + " calls in random runs, " + wrong + " wrong");
    if (wrong != 0) System.exit(1);
  }

  private void run(int run) throws Exception {
    while (done < CALLS && wrong == 0) {
      if (random.nextInt(25) == 0) tellRules();
      else oneCall();
    }
    if (wrong > 0) {
      System.out.println("run " + run + ":");
      for (String line : log.subList(Math.max(0, log.size() - 12), log.size())) System.out.println("  " + line);
    }
  }

  private void oneCall() throws Exception {
    int weights = CALLS_OF.stream().mapToInt(Call::weight).sum();
    int pick = random.nextInt(weights);
    int i = 0;
    while (pick >= CALLS_OF.get(i).weight) pick -= CALLS_OF.get(i++).weight;
    Call call = CALLS_OF.get(i);
    Object[] values = new Object[call.ranges.length / 2];
    for (int p = 0; p < values.length; p++) values[p] = argument(call.ranges[2 * p], call.ranges[2 * p + 1]);
    both(call.name, values);
  }

  private int argument(int least, int most) {
    int chance = random.nextInt(100);
    if (chance == 0) return new int[] {Integer.MIN_VALUE, Integer.MAX_VALUE, -1, 1000, 31, 32, 33, -100}[random.nextInt(8)];
    return least + random.nextInt(most - least + 1);
  }

  private void tellRules() throws Exception {
    String text = new Texts(random).text();
    for (int from = 0; from < text.length(); from += 8) {
      int n = Math.min(8, text.length() - from);
      long eight = 0;
      for (int i = n - 1; i >= 0; i--) eight = eight << 8 | text.charAt(from + i);
      both("feed", new Object[] {eight, n});
    }
    log.add("the text: " + text);
    both("rules", new Object[0]);
    for (int k = 0; k < 6; k++) both("sceneOf", new Object[] {k, 9});
  }

  private void both(String name, Object[] values) throws Exception {
    int got = (Integer) method(PlayedTruth.class, name, values).invoke(real, values);
    int due;
    try {
      due = (Integer) method(Model.class, name, values).invoke(model, values);
    } catch (InvocationTargetException e) {
      if (!(e.getCause() instanceof Model.Refused refused)) throw e;
      due = refused.answer;
    }
    done++;
    log.add(name + Arrays.toString(values) + " answered " + got + (got == due ? "" : ", due is " + due));
    if (got != due) wrong++;
  }

  private static final java.util.Map<String, Method> METHODS = new java.util.HashMap<>();

  private static Method method(Class<?> of, String name, Object[] values) {
    return METHODS.computeIfAbsent(of.getName() + "." + name, key -> {
      for (Method m : of.getDeclaredMethods()) {
        if (m.getName().equals(name) && m.getParameterCount() == values.length && m.getReturnType() == int.class) {
          m.setAccessible(true);
          return m;
        }
      }
      throw new IllegalStateException(key);
    });
  }

  /** Texts of rules, most of them right, some with a token or a byte changed. */
  private static final class Texts {
    private static final String[] TOKENS = {"scene", "trial", "duet", "sunset", "crowd", "match", "mend", "keep", "trim",
        "if", "not", "and", "or", "night", "truth", "pretty", "rail", "number", "<", "=", ">", "(", ")", ";", "0", "12",
        "9999", "10000", "007", "00012", "x", "iff", "A", "-", "\t", "\u00ff"};
    private final Random random;

    Texts(Random random) {
      this.random = random;
    }

    String text() {
      List<String> tokens = new ArrayList<>();
      int rules = random.nextInt(random.nextInt(4) == 0 ? 11 : 5);
      for (int r = 0; r < rules; r++) rule(tokens, rules > 5);
      int spoilt = random.nextInt(3) == 0 ? 1 + random.nextInt(2) : 0;
      for (int s = 0; s < spoilt && !tokens.isEmpty(); s++) spoil(tokens);
      String text = joined(tokens);
      if (text.length() > 200) text = text.substring(0, 200);
      if (random.nextInt(15) == 0) text = text.substring(0, random.nextInt(text.length() + 1));
      return text;
    }

    private void spoil(List<String> tokens) {
      int at = random.nextInt(tokens.size());
      String other = TOKENS[random.nextInt(TOKENS.length)];
      switch (random.nextInt(4)) {
        case 0: tokens.set(at, other); break;
        case 1: tokens.add(at, other); break;
        case 2: tokens.remove(at); break;
        default: tokens.subList(at, tokens.size()).clear();
      }
    }

    private String joined(List<String> tokens) {
      StringBuilder text = new StringBuilder();
      boolean isPlain = random.nextBoolean();
      for (String token : tokens) {
        boolean mustPart = text.length() > 0 && isWordy(text.charAt(text.length() - 1), token.charAt(0));
        if (mustPart && random.nextInt(200) != 0 || isPlain || random.nextInt(6) == 0) text.append(' ');
        text.append(token);
      }
      return text.toString();
    }

    private static boolean isWordy(char left, char right) {
      return Character.isLetter(left) && Character.isLetter(right) || Character.isDigit(left) && Character.isDigit(right);
    }

    private void rule(List<String> tokens, boolean isShort) {
      tokens.add(TOKENS[random.nextInt(6)]);
      if (!isShort && random.nextInt(5) != 0) {
        tokens.add("if");
        condition(tokens, 0);
      }
      tokens.add(TOKENS[6 + random.nextInt(3)]);
      tokens.add(";");
    }

    private void condition(List<String> tokens, int open) {
      int parts = random.nextInt(3) == 0 ? 1 + random.nextInt(3) : 1;
      for (int p = 0; p < parts; p++) {
        if (p > 0) tokens.add(random.nextBoolean() ? "and" : "or");
        while (random.nextInt(4) == 0) tokens.add("not");
        if (random.nextInt(4) == 0 && open < 4) {
          tokens.add("(");
          condition(tokens, open + 1);
          tokens.add(")");
        } else {
          value(tokens);
          tokens.add(TOKENS[18 + random.nextInt(3)]);
          value(tokens);
        }
      }
    }

    private void value(List<String> tokens) {
      if (random.nextBoolean()) tokens.add(TOKENS[13 + random.nextInt(5)]);
      else tokens.add(String.valueOf(random.nextInt(random.nextBoolean() ? 10 : 70)));
    }
  }
}
