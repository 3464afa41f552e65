import java.io.File;
import java.io.IOException;
import java.lang.reflect.Method;
import java.lang.reflect.Modifier;
import java.nio.charset.StandardCharsets;
import java.nio.file.Files;
import java.nio.file.Path;
import java.util.ArrayList;
import java.util.List;
import java.util.regex.Matcher;
import java.util.regex.Pattern;
import java.util.stream.Stream;

/** Compiles and runs the example of README.md as it stands there: each call answers what the comment behind it says. */
public final class ReadmeTest {
  private static final Path README = Path.of("README.md");
  private static final Pattern CALL = Pattern.compile("\\s+say\\((.*)\\);\\s+// (-?\\d+)(:.*)?");

  private ReadmeTest() {
  }

  public static void main(String[] args) throws IOException, InterruptedException {
    String readme = Files.readString(README);
    String example = codeIn(readme);
    List<String> calls = new ArrayList<>();
    List<Integer> wanted = new ArrayList<>();
    for (String line : example.split("\n")) {
      Matcher call = CALL.matcher(line);
      if (!call.matches()) continue;
      calls.add(call.group(1));
      wanted.add(Integer.parseInt(call.group(2)));
    }
    List<Integer> got = answersOf(example);
    Check.due("calls of the example with an answer behind them", calls.size(), got.size());
    for (int i = 0; i < Math.min(calls.size(), got.size()); i++) Check.due(calls.get(i), got.get(i), wanted.get(i));
    everyCallIsTold(readme.substring(readme.indexOf(example) + example.length()));
    everyTestIsTold(readme);
    Check.end("ReadmeTest");
  }

  private static String codeIn(String readme) {
    int from = readme.indexOf("```java\n") + "```java\n".length();
    return readme.substring(from, readme.indexOf("```", from));
  }

  private static List<Integer> answersOf(String example) throws IOException, InterruptedException {
    Path dir = Files.createTempDirectory("readme");
    String file = Files.writeString(dir.resolve("Example.java"), example).toString();
    String classes = System.getProperty("java.class.path") + File.pathSeparator + dir;
    outputOf("javac", "-Xlint:all", "-Werror", "-cp", classes, "-d", dir.toString(), file);
    List<Integer> answers = new ArrayList<>();
    for (String line : outputOf("java", "-cp", classes, "Example").split("\\R")) {
      if (line.matches("-?\\d+")) answers.add(Integer.parseInt(line));
    }
    remove(dir);
    return answers;
  }

  private static String outputOf(String... command) throws IOException, InterruptedException {
    Process process = new ProcessBuilder(command).redirectErrorStream(true).start();
    String output = new String(process.getInputStream().readAllBytes(), StandardCharsets.UTF_8);
    Check.due(command[0] + " of the example ends with", process.waitFor(), 0);
    return output;
  }

  private static void remove(Path dir) throws IOException {
    try (Stream<Path> files = Files.list(dir)) {
      for (Path file : files.toList()) Files.delete(file);
    }
    Files.delete(dir);
  }

  /** The list of calls behind the example names each call of the class with as many arguments as it takes. */
  private static void everyCallIsTold(String list) {
    for (Method method : PlayedTruth.class.getDeclaredMethods()) {
      if (!Modifier.isPublic(method.getModifiers())) continue;
      int takes = method.getParameterCount();
      String told = "`" + method.getName() + "\\(" + (takes == 0 ? "" : "\\w+(, \\w+){" + (takes - 1) + "}") + "\\)`";
      Check.due("README.md tells " + method.getName(), Pattern.compile(told).matcher(list).find() ? 1 : 0, 1);
    }
  }

  private static void everyTestIsTold(String readme) throws IOException {
    try (Stream<Path> files = Files.list(Path.of("src/test/java"))) {
      for (Path file : files.toList()) {
        String name = file.getFileName().toString().replace(".java", "");
        String shared = name.endsWith("BoundsTest") ? "*BoundsTest" : name;
        boolean isTold = readme.contains("`" + shared + "`");
        Check.due("README.md tells " + name, isTold ? 1 : 0, 1);
      }
    }
  }
}
