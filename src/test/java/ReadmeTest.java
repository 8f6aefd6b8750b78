import java.io.IOException;
import java.lang.reflect.InvocationTargetException;
import java.lang.reflect.Method;
import java.lang.reflect.Modifier;
import java.nio.file.Files;
import java.nio.file.Path;
import java.util.List;
import java.util.regex.Matcher;
import java.util.regex.Pattern;
import java.util.stream.Stream;

/** What README.md shows is what the class answers, and it names every method and every test. */
public final class ReadmeTest {
  private static final Pattern PUT = Pattern.compile("put\\(desk, \"(.*)\"\\);");
  private static final Pattern CALL = Pattern.compile("desk\\.(\\w+)\\((\\d*)\\); +// (-?\\d+|true|false)\\b.*");

  public static void main(String[] args) throws IOException, ReflectiveOperationException {
    Due due = new Due("ReadmeTest");
    List<String> lines = Files.readAllLines(Path.of("README.md"));
    methods(due, lines);
    tests(due, lines);
    firstLook(due, lines);
    examples(due, lines);
    due.end();
  }

  private static void methods(Due due, List<String> lines) {
    for (Method m : TermDesk.class.getDeclaredMethods()) {
      if (Modifier.isPublic(m.getModifiers())) {
        String head = "| `" + m.getReturnType().getName() + " " + m.getName() + "(";
        due.is("rows for " + m.getName(), lines.stream().filter(l -> l.startsWith(head)).count(), 1);
      }
    }
  }

  private static void tests(Due due, List<String> lines) throws IOException {
    String page = String.join("\n", lines);
    try (Stream<Path> files = Files.list(Path.of("src/test/java"))) {
      for (Path file : files.sorted().toList()) {
        String name = file.getFileName().toString().replace(".java", "");
        if (name.endsWith("Test")) {
          due.is("a row for " + name, Pattern.compile("\n\\| ([^|]*, )?" + name + "\\b").matcher(page).find(), true);
        }
      }
    }
  }

  /** The lines of the first look, called one after the other. */
  private static void firstLook(Due due, List<String> lines) throws ReflectiveOperationException {
    TermDesk desk = new TermDesk();
    int calls = 0;
    for (String line : lines) {
      Matcher put = PUT.matcher(line);
      Matcher call = CALL.matcher(line);
      if (put.matches()) {
        Due.put(desk, put.group(1));
      } else if (call.matches()) {
        calls++;
        due.is(line, answer(desk, call.group(1), call.group(2)), call.group(3));
      }
    }
    due.is("calls of the first look", calls > 10, true);
  }

  private static String answer(TermDesk desk, String name, String argument) throws ReflectiveOperationException {
    try {
      if (argument.isEmpty()) {
        return "" + TermDesk.class.getMethod(name).invoke(desk);
      }
      return "" + TermDesk.class.getMethod(name, int.class).invoke(desk, Integer.parseInt(argument));
    } catch (InvocationTargetException e) {
      return "" + e.getCause();
    }
  }

  private static void examples(Due due, List<String> lines) {
    int from = lines.indexOf("| text | check | place | type | normal | value |");
    due.is("the table of examples is there", from >= 0, true);
    int rows = 0;
    for (int i = from + 2; from >= 0 && i < lines.size() && lines.get(i).startsWith("|"); i++) {
      String[] cells = lines.get(i).split(" *\\| ", -1);
      due.is("cells of " + lines.get(i), cells.length >= 6, true);
      if (cells.length >= 6) {
        example(due, cells);
        rows++;
      }
    }
    due.is("examples", rows > 10, true);
  }

  private static void example(Due due, String[] cells) {
    String text = bare(cells[1]);
    TermDesk desk = Due.desk(text);
    due.is("check of " + text, "" + desk.check(20000), cells[2]);
    due.is("place of " + text, "" + desk.place(), cells[3]);
    due.is("type of " + text, Due.told(desk), bare(cells[4]));
    due.is("normal of " + text, "" + desk.normal(20000), cells[5]);
    due.is("value of " + text, Due.told(desk), cells.length > 6 ? bare(cells[6]) : "");
  }

  private static String bare(String cell) {
    int from = cell.indexOf('`');
    int to = cell.lastIndexOf('`');
    return from >= 0 && to > from ? cell.substring(from + 1, to) : "";
  }
}
