import java.util.Random;

/** Compares TermDesk with Model on right programs, on damaged ones, on made ones and on heaps of tokens. */
public final class ModelTest {
  private static final String[] TOKENS = {
    "x", "y", "f", "n", "p", "let", "U0", "U1", "U2", "N", "E", "S", "R", "X", "0", "3", "9999", "\\x.", "\\",
    ".", ":", "=", ";", ",", "(", ")", "*", "->", ".1", ".2", " ", "\n", "(x : N)", "(x : U0) ->", "?", "U", "-",
    "abcdefghi", "12345", "A", "xN", "_", "(x", "let x : N = 3;",
  };
  private static final int[] FUELS = {0, 1, 5, 17, 40, 90, 200, 600, 2000, 20000, 20000, 20000, 20000};

  private final Random random;
  private final Due due = new Due("ModelTest");
  private final int[] faults = new int[8];
  private TermDesk desk = new TermDesk();
  private int universes = 3;
  private int calls = 0;
  private int left = 150000;

  private ModelTest(long seed) {
    random = new Random(seed);
  }

  public static void main(String[] args) {
    long seed = args.length > 0 ? Long.parseLong(args[0]) : 1;
    int rounds = args.length > 1 ? Integer.parseInt(args[1]) : 12000;
    ModelTest test = new ModelTest(seed);
    for (String text : Programs.ALL) {
      test.compare(text, 20000);
    }
    for (int i = 0; i < rounds && !test.due.failed(); i++) {
      test.compare(test.someText(i), FUELS[test.random.nextInt(FUELS.length)]);
    }
    StringBuilder seen = new StringBuilder("ModelTest: faults 0 to 7 seen:");
    for (int f : test.faults) {
      seen.append(' ').append(f);
    }
    System.out.println(seen);
    test.due.end();
  }

  private String someText(int i) {
    String text;
    switch (i % 4) {
      case 0:
        text = pick(Programs.ALL);
        break;
      case 1:
        text = new Maker(random).program();
        break;
      case 2:
        text = heap();
        break;
      default:
        text = random.nextBoolean() ? pick(Programs.ALL) : new Maker(random).program();
        text = damaged(text);
        break;
    }
    return text.length() > 800 ? text.substring(0, 800) : text;
  }

  private String pick(String[] from) {
    return from[random.nextInt(from.length)];
  }

  private String heap() {
    StringBuilder text = new StringBuilder();
    for (int n = random.nextInt(12); n >= 0; n--) {
      text.append(pick(TOKENS)).append(random.nextBoolean() ? " " : "");
    }
    return text.toString();
  }

  private String damaged(String text) {
    StringBuilder made = new StringBuilder(text);
    for (int n = random.nextInt(3); n >= 0 && made.length() > 0; n--) {
      int at = random.nextInt(made.length());
      switch (random.nextInt(4)) {
        case 0:
          made.deleteCharAt(at);
          break;
        case 1:
          made.insert(at, pick(TOKENS));
          break;
        case 2:
          made.insert(at, made.charAt(random.nextInt(made.length())));
          break;
        default:
          made.setCharAt(at, made.charAt(random.nextInt(made.length())));
          break;
      }
    }
    return made.toString();
  }

  private void compare(String text, int fuel) {
    boolean type = random.nextBoolean();
    if (random.nextInt(20) == 0) {
      universes = 1 + random.nextInt(8);
    }
    Model.Answer want = Model.look(text, universes, fuel, left, type);
    int needed = 8 + text.length() / 8 + want.told().length();
    if (calls + needed > 512) {
      desk = new TermDesk();
      calls = 0;
      left = 150000;
      want = Model.look(text, universes, fuel, left, type);
    }
    calls += needed;
    left -= want.cost();
    Due.replace(desk, text);
    desk.levels(universes);
    faults[want.fault()]++;
    String what = (type ? "check " : "normal ") + fuel + " with " + universes + " levels of\n" + text + "\n";
    due.is(what, type ? desk.check(fuel) : desk.normal(fuel), want.fault());
    due.is("place of " + what, desk.place(), want.place());
    due.is("cost of " + what, desk.cost(), want.cost());
    due.is("number of " + what, desk.number(), want.number());
    due.is("text of " + what, Due.told(desk), want.told());
  }
}
