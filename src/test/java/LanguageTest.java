import java.io.IOException;
import java.nio.file.Files;
import java.nio.file.Path;
import java.util.List;

/** Some rules of LANGUAGE.md that the text of the class shows. */
public final class LanguageTest {
  private static final List<String> BANNED = List.of(
      "throw", "try", "catch", "synchronized", "assert", "instanceof", "native", "volatile", "transient",
      "package", "protected", "lambda", "hashCode", "toString", "System", "Thread", "Random", "Object", "Integer",
      "Exact", "strictfp", "var", "record", "interface", "enum");

  public static void main(String[] args) throws IOException {
    Due due = new Due("LanguageTest");
    String source = Files.readString(Path.of("src/main/java/TermDesk.java"));
    String code = source.replaceAll("(?s)/\\*.*?\\*/", "").replaceAll("//[^\n]*", "").replaceAll("'\\\\?.'", "0");
    for (String word : BANNED) {
      due.is("uses of " + word, code.split("\\b" + word + "\\b", -1).length - 1, 0);
    }
    due.is("an arrow or a method reference", code.contains("->") || code.contains("::"), false);
    due.is("imports", code.split("\\bimport\\b", -1).length - 1, 1);
    due.is("import of Arrays", code.contains("import java.util.Arrays;"), true);
    due.is("at most twelve classes", code.split("\\bclass\\b", -1).length - 1 <= 12, true);
    due.is("characters of the source", source.chars().allMatch(c -> c == '\n' || c >= ' ' && c <= '~'), true);
    longMethods(due, code);
    due.end();
  }

  private static void longMethods(Due due, String code) {
    String[] lines = code.split("\n", -1);
    int began = -1;
    for (int i = 0; i < lines.length; i++) {
      boolean head = lines[i].matches("  (  )?[a-z].*\\(.*\\) \\{");
      if (head) {
        began = i;
        int commas = lines[i].split(",", -1).length;
        due.is("at most seven parameters: " + lines[i].trim(), commas <= 7, true);
      } else if (began >= 0 && lines[i].matches("  (  )?\\}")) {
        due.is("some sixty lines: " + lines[began].trim(), i - began <= 60, true);
        began = -1;
      }
    }
  }
}
