import java.io.IOException;
import java.nio.file.Files;
import java.nio.file.Path;
import java.util.Set;
import java.util.TreeSet;
import java.util.regex.Matcher;
import java.util.regex.Pattern;

/** Rules of ../shared/LANGUAGE.md that can be seen in the source's words. */
public final class LanguageTest {
  private static final Check check = new Check();
  private static final Path SOURCE = Path.of("src/main/java/CiteLists.java");
  private static final Set<String> FACE = Set.of("entry", "key", "field", "cite", "cross", "style",
      "run", "row", "letter", "initials", "missing", "print", "at", "twice");
  private static final Pattern METHOD = Pattern.compile(
      "(?m)^( +)((?:public|private|static|final) )*[\\w\\[\\]]+ (\\w+)\\(([^)]*)\\)\\s*"
      + "(?:throws [\\w, \n]+)?\\{");

  public static void main(String[] args) throws IOException {
    String written = Files.readString(SOURCE);
    String code = withoutTexts(written);
    theFile(written, code);
    exceptions(written, code);
    words(code);
    staticFields(code);
    methods(code);
    newObjects(code);
    check.end("LanguageTest");
  }

  /** Comments, and what stands in texts, are no code. */
  private static String withoutTexts(String written) {
    return written.replaceAll("(?s)/\\*.*?\\*/", "").replaceAll("//[^\n]*", "")
        .replaceAll("\"(?:[^\"\\\\\n]|\\\\.)*\"", "\"\"").replaceAll("'(?:[^'\\\\]|\\\\.)+'", "' '");
  }

  private static int count(String code, String pattern) {
    Matcher found = Pattern.compile(pattern).matcher(code);
    int count = 0;
    while (found.find()) {
      count++;
    }
    return count;
  }

  private static void theFile(String written, String code) {
    check.sentence("one file, without a package line, one public class");
    check.due("package lines", 0, count(code, "(?m)^\\s*package "));
    check.due("public classes", 1, count(code, "public (final )?(class|interface|enum|record) "));
    check.due("imports", 1, count(code, "(?m)^import "));
    check.due("the import", true, code.startsWith("import java.util.NoSuchElementException;"));
    check.due("other names of the library", 1, count(code, "\\bjavax?\\."));
    check.due("characters above 126 or tabs", 0, count(written, "[^\n -~]"));
    check.due("some twelve classes at most", true, count(code, "\\b(class|enum|interface) \\w+") <= 12);
  }

  private static void exceptions(String written, String code) {
    check.sentence("throw new E() or throw new E(\"a written text\")");
    String one = "throw new (NoSuchElement|IndexOutOfBounds|IllegalArgument|UnsupportedOperation)"
        + "Exception\\(\"[^\"]*\"\\);";
    check.due("all throws", count(code, "\\bthrow\\b"), count(written, one));
    check.due("catches", 0, count(code, "\\b(try|catch|finally)\\b"));
  }

  private static void words(String code) {
    check.sentence("in the part of it that these rules leave");
    String[] none = {"synchronized", "assert", "volatile", "transient", "native", "protected",
      "Object", "hashCode", "toString", "getClass", "Random", "Thread", "double", "float", "instanceof",
      "var", "yield", "super", "extends", "implements"};
    for (String word : none) {
      check.due("the word " + word, 0, count(code, "\\b" + word + "\\b"));
    }
    check.due("lambdas and method references", 0, count(code, "->|::"));
    check.due("texts joined by +", 0, count(code, "\"\\s*\\+|\\+\\s*\""));
    check.due("arrays of two dimensions", 0, count(code, "\\]\\s*\\["));
    check.due("of the System", count(code, "\\bSystem\\."), count(code, "\\bSystem\\.arraycopy\\("));
    check.due("of Math", count(code, "\\bMath\\."), count(code, "\\bMath\\.(max|min)\\("));
  }

  private static void staticFields(String code) {
    check.sentence("Static fields are final: constants .., arrays of int, long, char or byte");
    check.due("static fields", count(code, "\\bstatic [^(){}=;]*[=;]"),
        count(code, "\\bprivate static final (int|char|String|int\\[\\]) [A-Z_]+\\s*="));
    check.due("static blocks", 0, count(code, "\\bstatic\\s*\\{"));
  }

  /** A class's own methods are those that stand as deep as its lines. */
  private static void methods(String code) {
    check.sentence("Methods stay short (some sixty lines), at most seven parameters, no private"
        + " method bears the name of a public one");
    Matcher found = METHOD.matcher(code);
    Set<String> all = new TreeSet<>();
    Set<String> hidden = new TreeSet<>();
    while (found.find()) {
      String end = "\n" + found.group(1) + "}\n";
      int lines = count(code.substring(found.end(), code.indexOf(end, found.end())), "\n");
      all.add(found.group(3));
      check.due("lines of " + found.group(3) + " " + lines, true, lines <= 60);
      check.due("parameters of " + found.group(3), true, count(found.group(4), ",") <= 6);
      if (!found.group().contains("public ")) {
        hidden.add(found.group(3));
      }
    }
    check.due("methods were found", true, all.size() > 40 && all.containsAll(FACE));
    hidden.retainAll(FACE);
    check.due("private methods with public names", "[]", hidden.toString());
  }

  /** Rooms are made with the object and its entries: a call alone makes none. */
  private static void newObjects(String code) {
    check.sentence("What a run makes is counted: keep it small");
    Matcher found = METHOD.matcher(code);
    while (found.find()) {
      String end = "\n" + found.group(1) + "}\n";
      String body = code.substring(found.end(), code.indexOf(end, found.end()));
      int made = count(body, "\\bnew\\b") - count(body, "\\bthrow new\\b");
      check.due("objects that " + found.group(3) + " makes", found.group(3).equals("entry") ? 2 : 0,
          made);
    }
  }
}
