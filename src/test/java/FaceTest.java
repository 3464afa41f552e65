import java.lang.management.ManagementFactory;
import java.lang.reflect.Constructor;
import java.lang.reflect.Field;
import java.lang.reflect.Method;
import java.lang.reflect.Modifier;
import java.nio.file.Files;
import java.nio.file.Path;
import java.util.ArrayList;
import java.util.Arrays;
import java.util.List;
import java.util.Random;
import java.util.TreeSet;
import java.util.regex.Matcher;
import java.util.regex.Pattern;

/** The public face, the rules of the language that a test can see, and what calls make in memory. */
public final class FaceTest {
  private static final String FACE = "act(iii) again() alterRow(iii) anew() bars(ii) best(i) bill(ii) billing(i) change(iii) "
      + "ends(i) feed(li) forget() game(i) goAll(iii) house(ii) item(iii) ith(ii) judge() keep() liar() lone(i) lot() many(i) "
      + "night() on(i) place(iii) placeFor(i) placeOf(ii) play(i) prettyFor(i) props(i) prove(i) remake(ii) report(iiii) row(ii) "
      + "rules() scene(iiii) sceneOf(ii) seed(i) sheet(iii) shelf(iii) state(i) strands(i) taken(ii) times(ii) trace(i) truth(i) "
      + "ways(i) when(i) wouldBe(iii) write(iii)";
  private static final Path SOURCE = Path.of("src/main/java/PlayedTruth.java");

  public static void main(String[] args) throws Exception {
    constants();
    members();
    names();
    words();
    callsMakeNothing();
    Check.end("FaceTest");
  }

  private static void due(String call, int got, int want) {
    Check.due(call, got, want);
  }

  private static void constants() {
    due("BAD", PlayedTruth.BAD, -1);
    due("FULL", PlayedTruth.FULL, -2);
    due("NONE", PlayedTruth.NONE, -3);
    due("STATE", PlayedTruth.STATE, -4);
  }

  private static void members() {
    Class<?> face = PlayedTruth.class;
    due("public final", face.getModifiers(), Modifier.PUBLIC | Modifier.FINAL);
    TreeSet<String> methods = new TreeSet<>();
    for (Method m : face.getDeclaredMethods()) {
      if (Modifier.isPrivate(m.getModifiers()) || m.isSynthetic()) continue;
      StringBuilder text = new StringBuilder(m.getName()).append('(');
      for (Class<?> type : m.getParameterTypes()) text.append(type.getName().charAt(0));
      methods.add(text.append(')').toString());
      due(m.getName() + " is public", m.getModifiers(), Modifier.PUBLIC);
      due(m.getName() + " answers an int", m.getReturnType() == int.class ? 1 : 0, 1);
    }
    due("the face: " + methods, String.join(" ", methods).equals(FACE) ? 1 : 0, 1);
    TreeSet<String> fields = new TreeSet<>();
    for (Field f : face.getDeclaredFields()) if (!Modifier.isPrivate(f.getModifiers())) fields.add(f.getName());
    due("fields " + fields, fields.equals(new TreeSet<>(List.of("BAD", "FULL", "NONE", "STATE"))) ? 1 : 0, 1);
    Constructor<?>[] made = face.getDeclaredConstructors();
    due("one constructor", made.length, 1);
    due("public, without arguments", Modifier.isPublic(made[0].getModifiers()) && made[0].getParameterCount() == 0 ? 1 : 0, 1);
    due("classes", face.getDeclaredClasses().length + 1 <= 12 ? 1 : 0, 1);
  }

  private static void names() {
    TreeSet<String> taken = new TreeSet<>();
    for (Method m : PlayedTruth.class.getDeclaredMethods()) if (Modifier.isPublic(m.getModifiers())) taken.add(m.getName());
    List<Class<?>> all = new ArrayList<>(Arrays.asList(PlayedTruth.class.getDeclaredClasses()));
    all.add(PlayedTruth.class);
    for (Class<?> c : all) {
      int fields = 0;
      for (Method m : c.getDeclaredMethods()) {
        boolean isFace = c == PlayedTruth.class && Modifier.isPublic(m.getModifiers());
        due(m + " bears a name of the face", !isFace && m.getName().matches(String.join("|", taken))
            && Modifier.isPrivate(m.getModifiers()) ? 1 : 0, 0);
        due(m + " has at most seven parameters", m.getParameterCount() <= 7 ? 1 : 0, 1);
      }
      for (Field f : c.getDeclaredFields()) {
        if (!Modifier.isStatic(f.getModifiers())) fields++;
        else due(f + " is final", Modifier.isFinal(f.getModifiers()) ? 1 : 0, 1);
      }
      due(c + " has at most twenty fields", fields <= 20 ? 1 : 0, 1);
      if (c != PlayedTruth.class) due(c + " is static", Modifier.isStatic(c.getModifiers()) ? 1 : 0, 1);
    }
  }

  private static void words() throws Exception {
    String source = Files.readString(SOURCE).replaceAll("(?s)/\\*.*?\\*/", "").replaceAll("//[^\n]*", "")
        .replaceAll("\"[^\"\n]*\"", "\"\"");
    Matcher m = Pattern.compile("\\b(throw|throws|try|catch|synchronized|assert|import|package|double|float|hashCode|toString"
        + "|Thread|Object|Exception|\\w+Exact|numberOfTrailingZeros)\\b|->|::").matcher(source);
    while (m.find()) due("the word " + m.group(), 1, 0);
    int lines = 0;
    for (String line : source.split("\n")) {
      lines = line.isBlank() ? 0 : lines + 1;
      due("a piece of code of more than sixty lines", lines <= 60 ? 1 : 0, 1);
    }
    Matcher calls = Pattern.compile("\\b(Math|Integer|Long|System|Arrays)\\.(\\w+)").matcher(source);
    List<String> listed = List.of("max", "min", "abs", "bitCount", "arraycopy", "MAX_VALUE", "MIN_VALUE");
    while (calls.find()) due("the library's " + calls.group(), listed.contains(calls.group(2)) ? 1 : 0, 1);
  }

  /** Any arguments, in any state, and no call makes an object: what a run makes is what its objects hold. */
  private static void callsMakeNothing() throws Exception {
    com.sun.management.ThreadMXBean bean = (com.sun.management.ThreadMXBean) ManagementFactory.getThreadMXBean();
    long thread = Thread.currentThread().getId();
    Random random = new Random(7);
    int[] a = new int[4 * 512];
    PlayedTruth warm = new PlayedTruth();
    callAll(warm, a);
    long made = 0;
    for (int run = 0; run < 60; run++) {
      for (int i = 0; i < a.length; i++) a[i] = random.nextInt(20) == 0 ? random.nextInt() : random.nextInt(18) - 1;
      PlayedTruth p = new PlayedTruth();
      long before = bean.getThreadAllocatedBytes(thread);
      callAll(p, a);
      made += bean.getThreadAllocatedBytes(thread) - before;
    }
    // The machine itself makes a few (a constant's text, when it is first used); an object a call would be 480,000 bytes.
    due("30,720 calls made " + made + " bytes, which are few", made < 20000 ? 1 : 0, 1);
    long before = bean.getThreadAllocatedBytes(thread);
    for (int i = 0; i < 100; i++) warm = new PlayedTruth();
    long each = (bean.getThreadAllocatedBytes(thread) - before) / 100;
    due("an object's bytes (" + each + ") are few", each < 20000 ? 1 : 0, 1);
    due("the last one is new", warm.many(0), 0);
  }

  private static void callAll(PlayedTruth p, int[] a) {
    for (int i = 0; i + 3 < a.length; i += 4) {
      int which = i / 4 % 52;
      if (which < 26) callLower(p, which, a[i], a[i + 1], a[i + 2], a[i + 3]);
      else callUpper(p, which, a[i], a[i + 1], a[i + 2], a[i + 3]);
    }
  }

  private static int callLower(PlayedTruth p, int which, int a, int b, int c, int d) {
    switch (which) {
      case 0: return p.scene(a, b, c, d);
      case 1: return p.sceneOf(a, b);
      case 2: return p.change(a, b, c);
      case 3: return p.remake(a, b);
      case 4: return p.house(a, b);
      case 5: return p.place(a, b, c);
      case 6: return p.placeOf(a, b);
      case 7: return p.ends(a);
      case 8: return a == 3 ? p.anew() : p.scene(1 + (b & 3), c & 63, d & 7, b & 3);
      case 9: return p.state(a);
      case 10: return p.feed((long) a << 32 | b, c);
      case 11: return p.rules();
      case 12: return p.night();
      case 13: return p.on(a);
      case 14: return p.when(a);
      case 15: return p.prettyFor(a);
      case 16: return p.placeFor(a);
      case 17: return p.truth(a);
      case 18: return p.props(a);
      case 19: return p.strands(a);
      case 20: return p.billing(a);
      case 21: return p.best(a & 3);
      case 22: return p.ith(a, b);
      case 23: return p.ways(a);
      case 24: return p.bill(a, b);
      default: return p.bars(a, b);
    }
  }

  private static int callUpper(PlayedTruth p, int which, int a, int b, int c, int d) {
    switch (which) {
      case 26: return p.game(a);
      case 27: return p.play(a);
      case 28: return p.report(a, b, c, d);
      case 29: return a == 3 ? p.forget() : p.report(a, b & 1, c & 31, 32 + (d & 31));
      case 30: return p.lone(a);
      case 31: return p.liar();
      case 32: return p.seed(a);
      case 33: return p.lot();
      case 34: return p.times(a, b);
      case 35: return p.prove(a);
      case 36: return p.row(a, b);
      case 37: return p.alterRow(a, b, c);
      case 38: return p.judge();
      case 39: return p.sheet(a, b, c);
      case 40: return p.write(a, b, c);
      case 41: return p.item(a, b, c);
      case 42: return p.goAll(a, b, c);
      case 43: return p.wouldBe(a, b, c);
      case 44: return p.shelf(a, b, c);
      case 45: return p.taken(a, b);
      case 46: return p.act(a, b, c);
      case 47: return p.trace(a);
      case 48: return p.many(a);
      case 49: return p.keep();
      case 50: return p.again();
      default: return p.act(a & 3, b & 3, c);
    }
  }
}
