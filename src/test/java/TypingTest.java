/** Promise 5 and the rules of TYPES and THE SAME: types told, and fault 3 with its place. */
public final class TypingTest {
  private static final Due DUE = new Due("TypingTest");

  public static void main(String[] args) {
    universes();
    functions();
    pairs();
    numbers();
    emptyType();
    lets();
    theSame();
    freshVariables();
    refused();
    DUE.end();
  }

  private static void universes() {
    DUE.check("N", 0, -1, "U0");
    DUE.check("E", 0, -1, "U0");
    DUE.check("U0", 0, -1, "U1");
    DUE.check("U1", 0, -1, "U2");
    DUE.fault("U2", 3, 0);
    DUE.fault("  U9", 3, 2);
    DUE.check("N -> U0", 0, -1, "U1");
    DUE.check("U1 * N", 0, -1, "U2");
    DUE.check("(a : U0) -> a", 0, -1, "U1");
    DUE.check("(a : U0) * (a -> U1)", 0, -1, "U2");
    DUE.fault("3 -> N", 3, 0);
    DUE.fault("N -> 3", 3, 5);
    DUE.fault("(x : 3) -> N", 3, 5);
    DUE.fault("(x : N) * x", 3, 10);
    DUE.fault("(\\x. x) -> N", 3, 1);
    DUE.fault("(N : U1)", 3, 1);
    DUE.fault("(U0 : U0)", 3, 1);
    DUE.fault("(N -> U0 : U0)", 3, 1);
  }

  private static void functions() {
    DUE.fault("\\x. x", 3, 0);
    DUE.fault(" ((\\x. x))", 3, 3);
    DUE.fault("(\\x. x) 1", 3, 1);
    DUE.check("((\\x. x) : N -> N) 1", 0, -1, "N");
    DUE.fault("((\\x. x) : N -> N) E", 3, 19);
    DUE.fault("((\\x. x) : N -> E)", 3, 6);
    DUE.fault("((\\x. x) : N)", 3, 2);
    DUE.fault("((\\x. x) : N * N)", 3, 2);
    DUE.fault("((\\x. \\y. x) : N -> N)", 3, 6);
    DUE.fault("3 4", 3, 0);
    DUE.fault("((\\f. f 1 2) : (N -> N) -> N)", 3, 6);
    DUE.fault("((\\f. 0) : 7)", 3, 11);
    DUE.check("((\\a. \\x. x) : (a : U0) -> a -> a)", 0, -1, "(x0:U0)->(x1:x0)->x0");
    DUE.check("((\\a. \\x. x) : (a : U0) -> a -> a) N", 0, -1, "(x0:N)->N");
    DUE.check("((\\a. \\x. x) : (a : U0) -> a -> a) N 3", 0, -1, "N");
    DUE.fault("((\\a. \\x. x) : (a : U0) -> a -> a) E 3", 3, 37);
    DUE.fault("((\\a. \\x. a) : (a : U0) -> a -> a)", 3, 10);
    DUE.fault("((\\a. \\b. \\x. x) : (a : U0) -> (b : U0) -> a -> b)", 3, 14);
  }

  private static void pairs() {
    DUE.fault("(1, 2)", 3, 0);
    DUE.fault("(((3, 4) : N * N).2, U0)", 3, 0);
    DUE.check("((1, 2) : N * N)", 0, -1, "(x0:N)*N");
    DUE.check("((1, N) : N * U0).2", 0, -1, "U0");
    DUE.check("((1, N) : N * U0).1", 0, -1, "N");
    DUE.fault("((1, 2) : N)", 3, 1);
    DUE.fault("((1, 2) : N -> N)", 3, 1);
    DUE.fault("((E, 2) : N * N)", 3, 2);
    DUE.fault("((1, E) : N * N)", 3, 5);
    DUE.fault("1 .1", 3, 0);
    DUE.fault("N -> 7.2", 3, 5);
    DUE.check("((N, 3) : (a : U0) * a)", 0, -1, "(x0:U0)*x0");
    DUE.check("((N, 3) : (a : U0) * a).2", 0, -1, "N");
    DUE.fault("((E, 3) : (a : U0) * a)", 3, 5);
    DUE.check("((\\p. p.2) : (p : (a : U0) * a) -> p.1)", 0, -1, "(x0:(x0:U0)*x0)->x0.1");
  }

  private static void numbers() {
    DUE.check("7", 0, -1, "N");
    DUE.check("S 7", 0, -1, "N");
    DUE.fault("(S U0 : N)", 3, 3);
    DUE.fault("S (S N)", 3, 5);
    DUE.check("R ((\\k. N) : N -> U0) 1 (\\k. \\r. r) 2", 0, -1, "N");
    DUE.check("R ((\\k. U0) : N -> U1) N (\\k. \\r. r -> N) 2", 0, -1, "U0");
    DUE.fault("R (\\k. N) 1 (\\k. \\r. r) 2", 3, 3);
    DUE.fault("R N 1 (\\k. \\r. r) 2", 3, 2);
    DUE.fault("R ((\\k. N) : E -> U0) 1 (\\k. \\r. r) 2", 3, 2);
    DUE.fault("R ((\\k. k) : N -> N) 1 (\\k. \\r. r) 2", 3, 2);
    DUE.fault("R ((N, N) : U0 * U0) 1 (\\k. \\r. r) 2", 3, 2);
    DUE.fault("R ((\\k. N) : N -> U0) N (\\k. \\r. r) 2", 3, 22);
    DUE.fault("R ((\\k. N) : N -> U0) 1 (\\k. \\r. N) 2", 3, 33);
    DUE.fault("R ((\\k. N) : N -> U0) 1 (\\k. 0) 2", 3, 29);
    DUE.fault("R ((\\k. N) : N -> U0) 1 3 2", 3, 24);
    DUE.fault("R ((\\k. N) : N -> U0) 1 (\\k. \\r. r) N", 3, 36);
    DUE.check("((\\s. R ((\\k. N) : N -> U0) 1 s 2) : (N -> N -> N) -> N)", 0, -1, "(x0:(x0:N)->(x1:N)->N)->N");
    DUE.fault("((\\s. R ((\\k. N) : N -> U0) 1 s 2) : (N -> U0 -> N) -> N)", 3, 30);
    DUE.check("((\\m. \\z. \\s. R m z s 2) : (m : N -> U0) -> m 0 -> ((k : N) -> m k -> m (S k)) -> m 2)", 0, -1,
        "(x0:(x0:N)->U0)->(x1:(x0 0))->(x2:(x2:N)->(x3:(x0 x2))->(x0 (S x2)))->(x0 2)");
    DUE.fault("((\\m. \\z. \\s. R m z s 2) : (m : N -> U0) -> m 0 -> ((k : N) -> m k -> m k) -> m 2)", 3, 20);
    DUE.fault("((\\m. \\z. \\s. R m z s 2) : (m : N -> U0) -> m 1 -> ((k : N) -> m k -> m (S k)) -> m 2)", 3, 18);
    DUE.fault("((\\m. \\z. \\s. R m z s 2) : (m : N -> U0) -> m 0 -> ((k : N) -> m k -> m (S k)) -> m 3)", 3, 14);
  }

  private static void emptyType() {
    DUE.check("((\\e. X N e) : E -> N)", 0, -1, "(x0:E)->N");
    DUE.check("((\\e. X U0 e) : E -> U0)", 0, -1, "(x0:E)->U0");
    DUE.fault("((\\e. X 3 e) : E -> N)", 3, 8);
    DUE.fault("X N 3", 3, 4);
    DUE.fault("((\\e. X E e) : E -> N)", 3, 6);
    DUE.fault("((\\e. X (\\x. x) e) : E -> N)", 3, 9);
  }

  private static void lets() {
    DUE.check("let x : N = 3; x", 0, -1, "N");
    DUE.check("let t : U0 = N; ((\\x. x) : t -> N)", 0, -1, "(x0:N)->N");
    DUE.fault("let x : 3 = 3; x", 3, 8);
    DUE.fault("let x : N = E; x", 3, 12);
    DUE.fault("let x : N = 3; \\y. y", 3, 15);
    DUE.fault("let x : N = 3; x x", 3, 15);
    DUE.check("(let x : N = 3; \\y. x : N -> N)", 0, -1, "(x0:N)->N");
    DUE.fault("(let x : N = 3; \\y. N : N -> N)", 3, 20);
    DUE.fault("(let x : N = 3; x : N -> N)", 3, 16);
    DUE.check("let p : (x : N) -> U0 = \\x. N; (y : p 3) -> p y", 0, -1, "U0");
  }

  /** Two numbers, functions or pairs are the same if what holds of one may be told of the other. */
  private static String law(String type, String a, String b) {
    return "((\\p. \\t. t) : (p : (" + type + ") -> U0) -> p (" + a + ") -> p (" + b + "))";
  }

  private static void alike(String type, String a, String b, boolean want) {
    TermDesk desk = Due.desk(law(type, a, b));
    DUE.is(a + " the same as " + b, desk.check(20000), want ? 0 : 3);
    DUE.is("place of " + a + " as " + b, desk.place(), want ? -1 : 10);
  }

  /** The same under a name x of a type. */
  private static void alikeWith(String of, String type, String a, String b, boolean want) {
    String types = "(x : " + of + ") -> (p : (" + type + ") -> U0) -> p (" + a + ") -> p (" + b + ")";
    String text = "((\\x. \\p. \\t. t) : " + types + ")";
    TermDesk desk = Due.desk(text);
    DUE.is(text, desk.check(20000), want ? 0 : 3);
    DUE.is("place of " + text, desk.place(), want ? -1 : 14);
  }

  private static void theSame() {
    alike("N", "S 2", "3", true);
    alike("N", "2", "3", false);
    alike("N -> N", "\\x. S x", "\\y. S y", true);
    alike("N -> N", "\\x. S x", "\\y. y", false);
    alike("N * N", "1, 2", "1, 2", true);
    alike("N * N", "1, 2", "2, 2", false);
    alike("N * N", "1, 2", "1, 3", false);
    alike("U1", "U0", "U0", true);
    alikeWith("N", "N", "S (S x)", "S (S x)", true);
    alikeWith("N", "N", "S x", "x", false);
    alikeWith("N", "N", "S x", "S (S x)", false);
    alikeWith("N", "N", "S x", "1", false);
    alikeWith("N", "N", "1", "S x", false);
    alikeWith("N", "N", "x", "0", false);
    alikeWith("N", "N", "R ((\\k. N) : N -> U0) 0 (\\k. \\r. k) (S x)", "x", true);
    alikeWith("N -> N", "N -> N", "x", "\\y. x y", true);
    alikeWith("N -> N", "N -> N", "\\y. x y", "x", true);
    alikeWith("N -> N", "N", "x 1", "x 1", true);
    alikeWith("N -> N", "N", "x 1", "x 2", false);
    alikeWith("N * N", "N * N", "x", "x.1, x.2", true);
    alikeWith("N * N", "N * N", "x.1, x.2", "x", true);
    alikeWith("N * N", "N * N", "x.2, x.1", "x", false);
    alikeWith("N * N", "N", "x.1", "x.2", false);
    alikeWith("E", "N", "X N x", "X N x", true);
    alikeWith("E * E", "N", "X N x.1", "X N x.2", false);
    String r = "R ((\\k. N) : N -> U0) ";
    alikeWith("N", "N", r + "0 (\\k. \\r. r) x", r + "0 (\\i. \\j. j) x", true);
    alikeWith("N", "N", r + "0 (\\k. \\r. r) x", r + "1 (\\k. \\r. r) x", false);
    alikeWith("N", "N", r + "0 (\\k. \\r. r) x", r + "0 (\\k. \\r. k) x", false);
    alikeWith("N", "N", r + "0 (\\k. \\r. r) x", r + "0 (\\k. \\r. r) (S x)", true);
    alikeWith("N", "N", r + "0 (\\k. \\r. S r) x", r + "0 (\\k. \\r. S r) (S x)", false);
    alikeWith("N", "N", r + "0 (\\k. \\r. S r) x", "R ((\\k. (N : U0)) : N -> U0) 0 (\\k. \\r. S r) x", true);
    DUE.check("((\\f. f) : ((x : N) -> N) -> N -> N)", 0, -1, "(x0:(x0:N)->N)->(x1:N)->N");
    DUE.fault("((\\f. f) : (N * N) -> N -> N)", 3, 6);
    DUE.fault("((\\f. f) : (E -> N) -> N -> N)", 3, 6);
    DUE.fault("((\\f. f) : (N -> E) -> N -> N)", 3, 6);
    DUE.check(Programs.ADD + Programs.EQ + "((\\p. \\t. t) : eq (add 2 3) 5)", 0, -1,
        "(x0:(x0:N)->U0)->(x1:(x0 5))->(x0 5)");
    DUE.is("a proof by R", Due.desk(Programs.INDUCTION).check(20000), 0);
  }

  /** The variables that THE SAME and types make are none of those around them, nor one another. */
  private static void freshVariables() {
    String[] names = {"w", "x", "y", "a", "b", "c"};
    String around = "(p : (N -> N -> N -> N) -> U0) -> (w : N) -> (x : N) -> (y : N) -> ";
    for (String one : names) {
      for (String other : names) {
        String given = "p (\\a. \\b. \\c. " + one + ")";
        String wanted = "p (\\a. \\b. \\c. " + other + ")";
        int fault = one.equals(other) ? 0 : 3;
        String functions = "((\\p. \\w. \\x. \\y. \\t. t) : " + around + given + " -> " + wanted + ")";
        DUE.is(functions, Due.desk(functions).check(20000), fault);
        String binders = around + "(t : " + given + ") -> ((\\q. N) : " + wanted + " -> U0) t";
        DUE.is(binders, Due.desk(binders).check(20000), fault);
      }
    }
    String types = "(a : U0) -> (b : U0) -> (x : #) -> ((\\q. N) : b -> U0) x";
    DUE.check(types.replace("#", "b"), 0, -1, "U1");
    DUE.fault(types.replace("#", "a"), 3, types.length() - 1);
  }

  private static void refused() {
    TermDesk desk = Due.desk("(4 : N)");
    DUE.is("check", desk.check(50), 0);
    int[] bad = {-1, 20001, Integer.MIN_VALUE, Integer.MAX_VALUE};
    for (int fuel : bad) {
      DUE.is("check(" + fuel + ")", desk.check(fuel), -1);
      DUE.is("the cost stays", desk.cost(), 3);
      DUE.is("the text stays", Due.told(desk), "N");
    }
    Due.replace(desk, "\\x. x");
    DUE.is("check of what has no type", desk.check(50), 3);
    DUE.is("its place", desk.place(), 0);
    DUE.is("no text", desk.length(), 0);
    DUE.is("refused", desk.check(-5), -1);
    DUE.is("the place stays", desk.place(), 0);
    Due.replace(desk, "N");
    DUE.is("check", desk.check(50), 0);
    DUE.is("no fault any more", desk.place(), -1);
  }
}
