import java.io.IOException;
import java.lang.reflect.Constructor;
import java.lang.reflect.Field;
import java.lang.reflect.Method;
import java.lang.reflect.Modifier;
import java.nio.file.Files;
import java.nio.file.Path;
import java.util.ArrayList;
import java.util.HashSet;
import java.util.List;
import java.util.Map;
import java.util.Set;
import java.util.TreeMap;
import java.util.regex.Matcher;
import java.util.regex.Pattern;

/** The rules of ../shared/LANGUAGE.md, as far as the source and the class show them; and the document's face. */
public final class LanguageTest {
  private static final Due d = new Due("LanguageTest");
  private static final Map<String, Integer> CONSTANTS = new TreeMap<>(Map.of(
      "BAD", Due.BAD, "NO", Due.NO, "FULL", Due.FULL, "NONE", Due.NONE, "NOTHING", Due.NOTHING, "KIND", Due.KIND, "INDEX", Due.INDEX, "SIZE", Due.SIZE));

  private static void face() throws IllegalAccessException {
    d.due("the class is public and final", StoneSheets.class.getModifiers(), Modifier.PUBLIC | Modifier.FINAL);
    Constructor<?>[] made = StoneSheets.class.getDeclaredConstructors();
    d.due("constructors", made.length, 1);
    d.due("the constructor is public", made[0].getModifiers(), Modifier.PUBLIC);
    Map<String, Integer> constants = new TreeMap<>();
    for (Field f : StoneSheets.class.getDeclaredFields()) {
      if (Modifier.isPrivate(f.getModifiers())) continue;
      d.due("modifiers of " + f.getName(), f.getModifiers(), Modifier.PUBLIC | Modifier.STATIC | Modifier.FINAL);
      constants.put(f.getName(), f.getInt(null));
    }
    d.due("constants", constants.toString(), CONSTANTS.toString());
    Set<String> open = new HashSet<>(), hidden = new HashSet<>();
    for (Method m : StoneSheets.class.getDeclaredMethods()) {
      if (Modifier.isPrivate(m.getModifiers())) { hidden.add(m.getName()); continue; }
      open.add(m.getName());
      d.due("modifiers of " + m.getName(), m.getModifiers(), Modifier.PUBLIC);
      d.due("arguments of " + m.getName(), m.getParameterCount(), Caller.FACE.getOrDefault(m.getName(), new String[99]).length);
      d.due("type of " + m.getName(), m.getReturnType().getName(), "int");
    }
    d.due("methods", open.equals(Caller.FACE.keySet()) ? "as told" : open.toString(), "as told");
    for (Class<?> c : StoneSheets.class.getDeclaredClasses()) {
      d.due(c.getName() + " is static", Modifier.isStatic(c.getModifiers()) ? 1 : 0, 1);
      d.due(c.getName() + " is not public", Modifier.isPublic(c.getModifiers()) || Modifier.isProtected(c.getModifiers()) ? 1 : 0, 0);
      d.due("fields of " + c.getName(), c.getDeclaredFields().length <= 20 ? 0 : c.getDeclaredFields().length, 0);
      for (Method m : c.getDeclaredMethods()) hidden.add(m.getName());
    }
    d.due("classes", StoneSheets.class.getDeclaredClasses().length <= 11 ? 0 : 1, 0);
    hidden.retainAll(open);
    d.due("names of the face that others bear", hidden.toString(), "[]");
  }

  /** The source without comments, texts and signs in quotes. */
  private static String bare(String source) {
    Matcher m = Pattern.compile("//[^\n]*|/\\*(?s:.*?)\\*/|\"(\\\\.|[^\"\\\\])*\"|'(\\\\.|[^'\\\\])'").matcher(source);
    StringBuilder out = new StringBuilder();
    while (m.find()) m.appendReplacement(out, Matcher.quoteReplacement(m.group().startsWith("\"") ? "\"\"" : m.group().startsWith("'") ? "0" : ""));
    return m.appendTail(out).toString();
  }

  private static void words(String source) {
    String bare = bare(source);
    String[] banned = {
      "throw", "try", "catch", "finally", "synchronized", "assert", "package", "native", "volatile", "transient", "strictfp", "var", "yield",
      "super", "System\\.out", "System\\.err", "System\\.nanoTime", "System\\.currentTimeMillis", "Random", "Thread", "Object", "hashCode", "toString", "equals",
      "[A-Za-z]*Exception", "[A-Za-z]*Error", "[a-z]+Exact", "double", "float", "interface\\s*@", "instanceof\\s+\\w+\\s*\\("};
    for (String word : banned) d.due("the word " + word, found(bare, "(?<![\\w.])" + word + "\\b"), "");
    d.due("lambdas, method references", found(bare, "->|::"), "");
    d.due("imports", found(bare, "import (?!java\\.util\\.Arrays;)[^;]*"), "");
    d.due("the library of System", found(bare, "System\\.(?!arraycopy\\()\\w+"), "");
    d.due("the library of Arrays", found(bare, "Arrays\\.(?!fill\\(|copyOf\\(|copyOfRange\\(|;)\\w+"), "");
    d.due("the library of Math", found(bare, "Math\\.(?!max\\(|min\\(|abs\\()\\w+"), "");
    d.due("the library of Integer", found(bare, "Integer\\.(?!bitCount\\()\\w+"), "");
    d.due("static initialiser blocks", found(bare, "static\\s*\\{"), "");
    d.due("statics that are not final", found(bare, "static (?!final )\\w+(\\[\\])? \\w+( =|;)"), "");
    d.due("signs beyond 127", found(source, "[^\\x00-\\x7f]"), "");
  }

  private static String found(String text, String pattern) {
    Matcher m = Pattern.compile(pattern).matcher(text);
    return m.find() ? m.group() : "";
  }

  /** Lengths and parameters of methods, whose heads stand in one line, indented by their depth. */
  private static void methods(String source) {
    List<String> lines = new ArrayList<>(List.of(source.split("\n")));
    Pattern head = Pattern.compile("^( {4}| {8})(?! )[\\w\\[\\] ]*\\w+\\(([^()]*)\\) \\{$");
    for (int i = 0; i < lines.size(); i++) {
      Matcher m = head.matcher(lines.get(i));
      if (!m.matches()) continue;
      int end = i;
      while (!lines.get(end).equals(m.group(1) + "}")) end++;
      d.due("lines of " + lines.get(i).trim(), end - i <= 60 ? 0 : end - i, 0);
      d.due("parameters of " + lines.get(i).trim(), m.group(2).split(",").length <= 7 ? 0 : 1, 0);
    }
  }

  public static void main(String[] args) throws IOException, IllegalAccessException {
    String source = Files.readString(Path.of("src/main/java/StoneSheets.java"));
    face();
    words(source);
    methods(source);
    d.end();
  }
}
