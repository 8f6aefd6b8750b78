import java.util.ArrayList;
import java.util.List;
import java.util.Random;

/** Fault 1 and its place on rows of tokens: all short ones, and long ones that stay terms for a while. */
public final class GrammarTest {
  private static final int SHORT = 3;
  private static final int LONG = 24;
  private static final String LIKELY = "NAME ( ) : -> * , . \\";
  private static final String CLOSING = ") . : = ; NAME";

  private final Due due = new Due("GrammarTest");
  private final Random random;
  private final List<String> mix = new ArrayList<>(Grammar.TOKENS);
  private int terms = 0;

  private GrammarTest(long seed) {
    random = new Random(seed);
    for (int i = 0; i < 2; i++) {
      mix.addAll(List.of(LIKELY.split(" ")));
    }
  }

  /** java GrammarTest SEED ROUNDS runs it longer, with other texts. */
  public static void main(String[] args) {
    GrammarTest test = new GrammarTest(args.length > 0 ? Long.parseLong(args[0]) : 1);
    test.allShort(new ArrayList<>());
    int rounds = args.length > 1 ? Integer.parseInt(args[1]) : 3000;
    for (int i = 0; i < rounds; i++) {
      test.made();
    }
    test.due.is("terms among the texts", test.terms > rounds / 5, true);
    test.due.end();
  }

  private void allShort(List<String> row) {
    compare(row);
    for (int i = 0; i < Grammar.TOKENS.size() && row.size() < SHORT; i++) {
      row.add(Grammar.TOKENS.get(i));
      allShort(row);
      row.remove(row.size() - 1);
    }
  }

  private void made() {
    Grammar grammar = new Grammar();
    List<String> row = new ArrayList<>();
    int length = 1 + random.nextInt(LONG);
    boolean right = true;
    while (row.size() < length && right) {
      right = random.nextInt(6) == 0 ? bracket(grammar, row) : anyToken(grammar, row);
    }
    if (right && random.nextBoolean()) {
      close(grammar, row);
    } else {
      for (int i = random.nextInt(3); i > 0; i--) {
        row.add(mix.get(random.nextInt(mix.size())));
      }
    }
    compare(row);
  }

  private boolean anyToken(Grammar grammar, List<String> row) {
    boolean right = false;
    String token = "";
    // Few tries leave many wrong tokens, many tries leave few.
    for (int tries = 1 + random.nextInt(60); tries > 0 && !right; tries--) {
      token = mix.get(random.nextInt(mix.size()));
      right = grammar.read(token);
    }
    row.add(token);
    return right;
  }

  /** What single tokens seldom come to: a bracket that may be a binder or not. */
  private boolean bracket(Grammar grammar, List<String> row) {
    String sign = List.of("->", "*", ")", ".1", "NAME").get(random.nextInt(5));
    for (String token : List.of("(", "NAME", ":", "N", ")", sign)) {
      row.add(token);
      if (!grammar.read(token)) {
        return false;
      }
    }
    return true;
  }

  /** Makes the row a term, with the first tokens that lead there. */
  private void close(Grammar grammar, List<String> row) {
    for (int i = 0; i < 5 * LONG && !grammar.isTerm(); i++) {
      for (String token : CLOSING.split(" ")) {
        if (grammar.read(token)) {
          row.add(token);
          break;
        }
      }
    }
  }

  private void compare(List<String> row) {
    StringBuilder text = new StringBuilder();
    Grammar grammar = new Grammar();
    int place = -1;
    for (String token : row) {
      if (place < 0 && !grammar.read(token)) {
        place = text.length();
      }
      text.append(spelled(token)).append(random.nextInt(4) == 0 ? '\n' : ' ');
    }
    if (place < 0 && !grammar.isTerm()) {
      place = text.length();
    }
    terms += place < 0 ? 1 : 0;
    TermDesk desk = Due.desk(text.toString());
    boolean refused = desk.check(0) == 1;
    due.is("fault 1 for " + text, refused, place >= 0);
    if (refused) {
      due.is("place of fault 1 in " + text, desk.place(), place);
    }
  }

  private String spelled(String token) {
    switch (token) {
      case "NAME":
        return List.of("a", "b", "x_1").get(random.nextInt(3));
      case "NUMERAL":
        return List.of("0", "12", "9999").get(random.nextInt(3));
      case "U":
        return "U" + random.nextInt(10);
      default:
        return token;
    }
  }
}
