/** Promises 7 and 8: places and costs; fault 4, and what all lookings of one object may cost. */
public final class CostTest {
  private static final Due DUE = new Due("CostTest");

  public static void main(String[] args) {
    costs();
    places();
    costsOfFaults();
    inAll();
    lookings();
    DUE.end();
  }

  /** What check and normal cost, and that one less is too little for either. */
  private static void cost(String text, int check, int normal) {
    TermDesk desk = Due.desk(text);
    DUE.is("check of " + text, desk.check(check), 0);
    DUE.is("cost of check of " + text, desk.cost(), check);
    DUE.is("normal of " + text, desk.normal(normal), 0);
    DUE.is("cost of normal of " + text, desk.cost(), normal);
    DUE.is("check with one less of " + text, desk.check(check - 1), 4);
    DUE.is("its cost, of " + text, desk.cost(), check - 1);
    DUE.is("normal with one less of " + text, desk.normal(normal - 1), 4);
    DUE.is("its cost, of " + text, desk.cost(), normal - 1);
  }

  private static void costs() {
    cost("N", 1, 2);
    cost("7", 1, 2);
    // 7 held to N: 1.
    cost("S 7", 2, 4);
    // A's value for x: 1.
    cost("(x : N) -> N", 2, 8);
    cost("N -> N", 1, 7);
    // N's value, 3 held to it, told.
    cost("(3 : N)", 3, 5);
    // The type's value 2; its B used on x 2; x held 1; 1 held 1, its value 1, B used 2; told 1.
    cost("((\\x. x) : N -> N) 1", 10, 16);
    // The type's value 2; 1 held 1, its value 1, B used 2, 2 held 1; then .1 is A; .2 works the pair out: 4, B used 2.
    cost("((1, 2) : N * N).1", 8, 8 - 1 + 6);
    cost("((1, 2) : N * N).2", 14, 14 - 1 + 6);
    // E -> N: 2; used 2; X: e held to E 1, N's value 1, the same 1.
    cost("((\\e. X N e) : E -> N)", 7 + 5, 7 + 10);
    // As the document's first run tells it.
    cost(Programs.ADD + "add 20 22", 43, 159);
  }

  private static void place(String text, int fuel, int place) {
    TermDesk desk = Due.desk(text);
    DUE.is("check(" + fuel + ") of " + text, desk.check(fuel), 4);
    DUE.is("place with " + fuel + " of " + text, desk.place(), place);
    DUE.is("no text with " + fuel + " of " + text, desk.length(), 0);
  }

  private static void places() {
    place("  ((N))", 0, 4);
    place("S 7", 0, 2);
    place("S 7", 1, 0);
    place("N -> (x : N) -> N", 0, 5);
    place("N -> (x : N) -> N", 1, 0);
    place("(3 : N)", 0, 0);
    place("(3 : N)", 1, 1);
    place("(3 : N)", 2, 0);
    String use = "((\\x. x) : N -> N) 1";
    int[] wanted = {0, 0, 2, 2, 6, 19, 0, 0, 0, 0};
    for (int fuel = 0; fuel < wanted.length; fuel++) {
      place(use, fuel, wanted[fuel]);
    }
    // M's type 2, its B 2, the same 1; B used on a variable 2, M's value 2, used on 0: 2; z.
    String recursor = "R ((\\k. N) : N -> U0) 1 (\\k. \\r. r) 2";
    int[] ofR = {2, 2, 4, 4, 8, 0, 0, 0, 0, 0, 0, 22, 25, 25, 25, 29, 29, 29, 33, 36, 0, 0, 0, 0};
    for (int fuel = 0; fuel < ofR.length; fuel++) {
      place(recursor, fuel, ofR[fuel]);
    }
    DUE.is("all of R", Due.desk(recursor).check(ofR.length), 0);
    place("let x : N = 3; x", 0, 0);
    place("let x : N = 3; x", 1, 12);
    place("let x : N = 3; x", 2, 0);
    place("let x : N = 3; x", 3, 0);
    place("((\\e. X N e) : E -> N)", 4, 10);
    place("((\\e. X N e) : E -> N)", 5, 6);
    place("((\\e. X N e) : E -> N)", 6, 6);
  }

  private static void costsOfFaults() {
    TermDesk desk = Due.desk("(x");
    DUE.is("fault 1", desk.check(50), 1);
    DUE.is("costs nothing", desk.cost(), 0);
    Due.replace(desk, "((\\x. x) : N -> N) E");
    DUE.is("fault 3", desk.check(50), 3);
    DUE.is("costs what was done", desk.cost(), 6);
    DUE.is("refused", desk.normal(20001), -1);
    DUE.is("changes no cost", desk.cost(), 6);
    DUE.is("no fuel", desk.normal(0), 4);
    DUE.is("costs nothing", desk.cost(), 0);
  }

  private static void inAll() {
    TermDesk desk = Due.desk(Programs.DEAR);
    for (int i = 0; i < 7; i++) {
      DUE.is("looking " + i, desk.normal(20000), 4);
      DUE.is("its cost", desk.cost(), 20000);
    }
    DUE.is("the eighth", desk.normal(20000), 4);
    DUE.is("has 10000 left", desk.cost(), 10000);
    DUE.is("the ninth", desk.check(20000), 4);
    DUE.is("has nothing left", desk.cost(), 0);
    DUE.is("its place", desk.place(), 2);
    Due.replace(desk, " \\x. x");
    DUE.is("what costs nothing is still found", desk.check(20000), 3);
    DUE.is("and where", desk.place(), 1);
    DUE.is("another object", Due.desk("N").check(1), 0);
  }

  private static void lookings() {
    TermDesk desk = Due.desk("(");
    for (int i = 0; i < 255; i++) {
      desk.check(3);
    }
    DUE.is("refused lookings are none", desk.check(-1), -1);
    DUE.is("the 256th", desk.check(3), 1);
    DUE.is("its place", desk.place(), 1);
    DUE.is("the 257th", desk.check(3), 4);
    DUE.is("its place", desk.place(), 0);
    DUE.is("its cost", desk.cost(), 0);
    Due.replace(desk, "   7");
    DUE.is("the 258th", desk.normal(3), 4);
    DUE.is("its place", desk.place(), 0);
    DUE.is("its number", desk.number(), -1);
    DUE.is("its length", desk.length(), 0);
    DUE.is("still refused", desk.normal(20001), -1);
  }
}
