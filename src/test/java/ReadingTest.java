/** Tokens, grammar, nodes, heights and open terms: fault 1; names: fault 2. */
public final class ReadingTest {
  private static final Due DUE = new Due("ReadingTest");

  public static void main(String[] args) {
    tokens();
    grammar();
    brackets();
    openTerms();
    nodes();
    heights();
    names();
    DUE.end();
  }

  private static void tokens() {
    DUE.fault("", 1, 0);
    DUE.fault("  \n ", 1, 4);
    DUE.fault("A", 1, 0);
    DUE.fault("_x", 1, 0);
    DUE.fault("N N ?", 1, 4);
    DUE.fault("U", 1, 0);
    DUE.fault("U 0", 1, 0);
    DUE.fault("N -", 1, 2);
    DUE.fault("N - > N", 1, 2);
    DUE.fault("\\x.1", 1, 2);
    DUE.fault("\\let. N", 1, 1);
    DUE.fault("(\\x", 1, 3);
    DUE.check("((\\x.x):N->N)", 0, -1, "(x0:N)->N");
    DUE.check("((\\lets . lets):N->N)", 0, -1, "(x0:N)->N");
    DUE.check("((\\a_1Bcd2z.a_1Bcd2z):N->N)", 0, -1, "(x0:N)->N");
    DUE.fault("((\\abcdefghi. 0):N->N)", 1, 11);
    DUE.fault("abcdefghi", 2, 0);
    DUE.normal("0012", 0, -1, "12");
    DUE.normal("9999", 0, -1, "9999");
    DUE.fault("12345", 3, 0);
    DUE.fault("U01", 3, 0);
    DUE.normal("((\\x.Sx):N->N)3", 0, -1, "4");
    DUE.normal("((1,2):N*N).1", 0, -1, "1");
    DUE.normal("((1,2):N*N) .2", 0, -1, "2");
    DUE.fault("((1,2):N*N).12", 3, 0);
    DUE.fault("((1,2):N*N). 1", 1, 11);
    DUE.check("N->N", 0, -1, "U0");
    DUE.check("\n N *\nE ", 0, -1, "U0");
  }

  private static void grammar() {
    DUE.fault("N N)", 1, 3);
    DUE.fault("N = N", 1, 2);
    DUE.fault("S", 1, 1);
    DUE.fault("S S 0", 1, 2);
    DUE.fault("S \\x. x", 1, 2);
    DUE.fault("R N N N", 1, 7);
    DUE.fault("X N", 1, 3);
    DUE.fault("N S 0", 1, 2);
    DUE.fault("N -> ", 1, 5);
    DUE.fault("-> N", 1, 0);
    DUE.fault(".1", 1, 0);
    DUE.fault("\\N. x", 1, 1);
    DUE.fault("\\x x", 1, 3);
    DUE.fault("let x = 1; x", 1, 6);
    DUE.fault("let x : N; x", 1, 9);
    DUE.fault("let x : N = 1, x", 1, 13);
    DUE.fault("let N : N = 1; 1", 1, 4);
    DUE.fault("let x : N = 1;", 1, 14);
    DUE.fault("(N", 1, 2);
    DUE.fault("(N N", 1, 4);
    DUE.fault("(1 : ", 1, 5);
    DUE.fault("(1, 2, 3)", 1, 5);
    DUE.fault("(1 : N : N)", 1, 7);
    DUE.fault("()", 1, 1);
    DUE.fault("((\\A. \\x. x) : (A : U0) -> A -> A)", 1, 3);
    DUE.normal("N * N -> N", 0, -1, "(x0:N)*(x1:N)->N");
    DUE.normal("N -> N * N", 0, -1, "(x0:N)->(x1:N)*N");
    DUE.normal("(N -> N) -> N", 0, -1, "(x0:(x0:N)->N)->N");
    DUE.normal("((\\f. S (f 1 2)) : (N -> N -> N) -> N)", 0, -1, "\\x0.(S ((x0 1) 2))");
    DUE.normal("((\\f. f.2 1) : (N * (N -> N)) -> N)", 0, -1, "\\x0.(x0.2 1)");
    DUE.fault("((\\f. f 1 .2) : (N -> N) -> N)", 3, 8);
    DUE.normal("((\\f. (f 1) .2) : (N -> N * N) -> N)", 0, -1, "\\x0.(x0 1).2");
  }

  private static void brackets() {
    DUE.check("(x : N) -> N", 0, -1, "U0");
    DUE.check("((x : N) * N)", 0, -1, "U0");
    DUE.check("(N : U0) -> N", 0, -1, "U0");
    DUE.check("((\\x. (x : N)) : N -> N)", 0, -1, "(x0:N)->N");
    DUE.check("((\\p. (p : N * N).1) : (N * N) -> N)", 0, -1, "(x0:(x0:N)*N)->N");
    DUE.check("((\\x. S (x : N)) : N -> N)", 0, -1, "(x0:N)->N");
    DUE.check("((\\p. (p : N -> U0) 1) : (N -> U0) -> U0)", 0, -1, "(x0:(x0:N)->U0)->U0");
    DUE.check("((\\p. (p : N -> U0) 1 -> N) : (N -> U0) -> U0)", 0, -1, "(x0:(x0:N)->U0)->U0");
    DUE.fault("((\\p. \\n. p (n : N) -> N) : (N -> U0) -> N -> U0)", 1, 20);
    DUE.fault("((\\p. \\n. p (n : N) * N) : (N -> U0) -> N -> U0)", 1, 20);
    DUE.check("((\\p. \\n. p ((n : N)) -> N) : (N -> U0) -> N -> U0)", 0, -1,
        "(x0:(x0:N)->U0)->(x1:N)->U0");
    DUE.fault("S (x : N) -> N", 1, 10);
    DUE.fault("(x : N, N)", 1, 6);
    DUE.fault("(x : N : N)", 1, 7);
  }

  private static String times(String s, int n) {
    return s.repeat(n);
  }

  private static void openTerms() {
    DUE.check(times("(", 29) + "N" + times(")", 29), 0, -1, "U0");
    DUE.fault(times("(", 30) + "N" + times(")", 30), 1, 30);
    DUE.fault(times("(", 30) + "N ?", 1, 30);
    DUE.fault(times("(", 30) + "x ?", 1, 32);
    DUE.fault(times("(", 30) + "x ", 1, 30);
    DUE.fault(times("(", 30) + ")", 1, 30);
    DUE.fault(times("(", 28) + "(x : N)" + times(")", 28), 2, 29);
    DUE.fault(times("(", 29) + "(x : N)" + times(")", 29), 1, 34);
    DUE.fault(times("(", 29) + "(7 : N)" + times(")", 29), 1, 30);
    DUE.check(times("N->", 29) + "N", 0, -1, "U0");
    DUE.fault(times("N->", 30) + "N", 1, 90);
    DUE.fault(times("\\x.", 29) + "x", 3, 0);
    DUE.fault(times("\\x.", 30) + "x", 1, 90);
    DUE.check(times("(x:N)*", 29) + "N", 0, -1, "U0");
    DUE.fault(times("(x:N)*", 30) + "N", 1, 177);
    DUE.check(times("let x:N=1;", 29) + "x", 0, -1, "N");
    DUE.fault(times("let x:N=1;", 30) + "x", 1, 296);
  }

  private static void nodes() {
    String nearly = Texts.tree(150);
    int end = nearly.length();
    DUE.fault(nearly, 3, 0);
    DUE.fault(Texts.tree(151), 1, 0);
    DUE.fault("(" + Texts.tree(149) + ",S 1)", 3, 0);
    DUE.fault("(" + Texts.tree(149) + ",S (S 1))", 1, 0);
    DUE.fault("(" + nearly + ",S 1)", 1, end + 2);
    DUE.fault("(" + nearly + ",S 1?", 1, end + 5);
    DUE.fault("(" + nearly + ",S 1 =", 1, end + 2);
    DUE.fault("(" + nearly + ",S =", 1, end + 4);
    DUE.fault("(" + nearly + ",(x : N))", 1, end + 3);
    DUE.fault("(" + Texts.tree(149) + ",(x : S 0))", 1, Texts.tree(149).length() + 2);
    DUE.fault("(" + Texts.tree(149) + ",(x : S 0)?", 1, Texts.tree(149).length() + 11);
    DUE.fault("(" + Texts.tree(149) + ",(x : N) 1)", 1, Texts.tree(149).length() + 10);
    DUE.fault("(" + nearly + ",(x : N) -> 1)", 1, end + 13);
  }

  private static void heights() {
    DUE.check(times("S(", 28) + "S 0" + times(")", 28), 0, -1, "N");
    DUE.fault("S " + times("(S ", 28) + "1.1" + times(")", 28), 1, 0);
    DUE.fault("x" + times(".1", 29), 2, 0);
    DUE.fault("  x" + times(".1", 30), 1, 2);
    DUE.fault("  (x)" + times(".1", 30), 1, 3);
    DUE.fault("x" + times(".1", 30) + "?", 1, 61);
    DUE.fault("0" + times(" 1", 29), 3, 0);
    DUE.fault("(0)" + times(" 1", 30), 1, 1);
    DUE.fault("N -> 0" + times(" 1", 30), 1, 5);
  }

  private static void names() {
    DUE.fault("f 1", 2, 0);
    DUE.fault("\\x. x y", 2, 6);
    DUE.fault("(x : y)", 2, 1);
    DUE.fault("(\\x. x : y)", 2, 9);
    DUE.fault("(x : x) -> N", 2, 5);
    DUE.fault("(x : N) -> y", 2, 11);
    DUE.fault("let x : x = 1; x", 2, 8);
    DUE.fault("let x : N = x; x", 2, 12);
    DUE.fault("let x : N = y; z", 2, 12);
    DUE.fault("(let x : N = 1; x) x", 2, 19);
    DUE.fault("((\\x. x) : N -> N) x", 2, 19);
    DUE.fault("\\x. xx", 2, 4);
    DUE.fault("\\xx. x", 2, 5);
    DUE.fault("y )", 1, 2);
    DUE.fault("y (E 3 \\", 1, 7);
    DUE.normal("let x : N = 1; let x : N = S x; S x", 0, -1, "3");
    DUE.normal("((\\x. \\x. x) : N -> N -> N) 1 2", 0, -1, "2");
    DUE.normal("((\\x. \\y. x) : N -> N -> N) 1 2", 0, -1, "1");
    DUE.check("(x : U0) -> (x : x) -> N", 0, -1, "U1");
    TermDesk desk = Due.desk("f 1");
    desk.check(9);
    DUE.is("a name that means nothing costs nothing", desk.cost(), 0);
  }
}
