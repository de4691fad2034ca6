import java.io.IOException;
import java.nio.file.Files;
import java.nio.file.Path;
import java.util.Set;
import java.util.TreeSet;
import java.util.regex.Matcher;
import java.util.regex.Pattern;
import java.util.stream.Collectors;
import java.util.stream.Stream;

/** README.md: each call of its example answers what stands behind it, and each test has its row in the table. */
public final class ReadmeTest {
  private static final Due d = new Due("ReadmeTest");
  private static final Pattern CALL = Pattern.compile("s\\.(\\w+)\\(([^()]*)\\); +// (?:StoneSheets\\.)?(-?\\w+)(?:: .*)?");

  private static int number(String word) { return word.startsWith("0x") ? Integer.decode(word) : Script.number(word); }

  private static void example(String readme) {
    Matcher block = Pattern.compile("```java\n(.*?)```", Pattern.DOTALL).matcher(readme);
    d.due("blocks of Java", block.find() ? 1 : 0, 1);
    Caller caller = new Caller(new StoneSheets());
    String[] lines = block.group(1).split("\n");
    d.due("its first line", lines[0], "StoneSheets s = new StoneSheets();");
    for (int i = 1; i < lines.length; i++) {
      Matcher m = CALL.matcher(lines[i]);
      d.due("<" + lines[i] + "> is a call and its answer", m.matches() ? 1 : 0, 1);
      if (!m.matches()) continue;
      int[] a = Stream.of(m.group(2).split(", ")).filter(w -> !w.isEmpty()).mapToInt(ReadmeTest::number).toArray();
      d.due(lines[i], caller.call(m.group(1), a), number(m.group(3)));
    }
  }

  private static void table(String readme) throws IOException {
    Set<String> rows = new TreeSet<>(), tests = new TreeSet<>();
    readme.lines().filter(l -> l.startsWith("| ") && l.contains("Test")).forEach(l -> {
      Matcher m = Pattern.compile("\\w+Test\\b").matcher(l.split("\\|")[1]);
      while (m.find()) rows.add(m.group());
    });
    try (Stream<Path> files = Files.list(Path.of("src/test/java"))) {
      tests.addAll(files.map(p -> p.getFileName().toString()).filter(n -> n.endsWith("Test.java")).map(n -> n.replace(".java", "")).collect(Collectors.toList()));
    }
    d.due("tests in its table", rows.toString(), tests.toString());
  }

  /** Each call of the face stands in the table of calls, under the words that the document puts ahead of it. */
  private static void calls(String readme) {
    Set<String> told = new TreeSet<>();
    Matcher m = Pattern.compile("`(\\w+)`").matcher(readme.lines().filter(l -> l.startsWith("| ") && !l.contains("Test")).collect(Collectors.joining("\n")));
    while (m.find()) told.add(m.group(1));
    d.due("calls in its table", told.toString(), new TreeSet<>(Caller.FACE.keySet()).toString());
  }

  public static void main(String[] args) throws IOException {
    String readme = Files.readString(Path.of("README.md"));
    example(readme);
    table(readme);
    calls(readme);
    d.end();
  }
}
