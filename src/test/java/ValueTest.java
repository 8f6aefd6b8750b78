/** Promises 6, 9, 10 and 11: values, and the text told of them. */
public final class ValueTest {
  private static final Due DUE = new Due("ValueTest");

  public static void main(String[] args) {
    values();
    recursion();
    stuck();
    told();
    refused();
    DUE.end();
  }

  private static void values() {
    DUE.normal("N", 0, -1, "N");
    DUE.normal("E", 0, -1, "E");
    DUE.normal("U1", 0, -1, "U1");
    DUE.normal("N -> E", 0, -1, "(x0:N)->E");
    DUE.normal("N * E", 0, -1, "(x0:N)*E");
    DUE.normal("(a : U0) -> (x : a) -> a * a", 0, -1, "(x0:U0)->(x1:x0)->(x2:x0)*x0");
    DUE.normal("0", 0, -1, "0");
    DUE.normal("10", 0, -1, "10");
    DUE.normal("S 99", 0, -1, "100");
    DUE.normal("((1, 2) : N * N)", 0, -1, "(1,2)");
    DUE.normal("((1, (2, 3)) : N * N * N).2.1", 0, -1, "2");
    DUE.normal("((\\x. \\y. (y, x)) : N -> N -> N * N) 1 2", 0, -1, "(2,1)");
    DUE.normal("let x : N = 3; let y : N = S x; S y", 0, -1, "5");
    DUE.normal("((\\f. \\x. f (f x)) : (N -> N) -> N -> N) (\\y. S y) 5", 0, -1, "7");
    DUE.fault("\\x. x", 3, 0);
    DUE.fault("(1, 2)", 3, 0);
  }

  private static void recursion() {
    DUE.normal(Programs.ADD + "add 20 22", 0, -1, "42");
    DUE.normal("R ((\\k. N) : N -> U0) 5 (\\k. \\r. k) 0", 0, -1, "5");
    DUE.normal("R ((\\k. N) : N -> U0) 5 (\\k. \\r. k) 1", 0, -1, "0");
    DUE.normal("R ((\\k. N) : N -> U0) 5 (\\k. \\r. k) 9", 0, -1, "8");
    DUE.normal("R ((\\k. N * N) : N -> U0) (0, 0) (\\k. \\r. (r.2, k)) 9", 0, -1, "(7,8)");
    DUE.normal("((\\n. R ((\\k. N) : N -> U0) 5 (\\k. \\r. k) (S n)) : N -> N)", 0, -1, "\\x0.x0");
    DUE.normal("((\\n. R ((\\k. N) : N -> U0) 5 (\\k. \\r. k) (S (S n))) : N -> N)", 0, -1, "\\x0.(S x0)");
    DUE.normal(Programs.VEC + "vec 2", 0, -1, "(x0:N)*(x1:N)*N");
  }

  private static void stuck() {
    DUE.normal("((\\f. \\x. f (S x)) : (N -> N) -> N -> N)", 0, -1, "\\x0.\\x1.(x0 (S x1))");
    DUE.normal("((\\p. S (S p.1)) : (N * N) -> N)", 0, -1, "\\x0.(S (S x0.1))");
    DUE.normal("((\\p. (p.2, p.1)) : (N * N) -> N * N)", 0, -1, "\\x0.(x0.2,x0.1)");
    DUE.normal("((\\e. X N e) : E -> N)", 0, -1, "\\x0.(X N x0)");
    DUE.normal("((\\e. X (N -> N) e 1) : E -> N)", 0, -1, "\\x0.((X (x1:N)->N x0) 1)");
    DUE.normal("((\\n. R ((\\k. N) : N -> U0) 5 (\\k. \\r. k) n) : N -> N)", 0, -1,
        "\\x0.(R \\x1.N 5 \\x1.\\x2.x1 x0)");
    DUE.normal("((\\n. R ((\\k. N) : N -> U0) 5 (\\k. \\r. S r) (S n)) : N -> N)", 0, -1,
        "\\x0.(S (R \\x1.N 5 \\x1.\\x2.(S x2) x0))");
    DUE.normal("((\\f. (f 1).1) : (N -> N * N) -> N)", 0, -1, "\\x0.(x0 1).1");
  }

  private static void told() {
    TermDesk desk = Due.desk("((7, 8) : N * N)");
    DUE.is("normal", desk.normal(50), 0);
    DUE.is("length", desk.length(), 5);
    DUE.is("at(0)", desk.at(0), '(');
    DUE.is("at(4)", desk.at(4), ')');
    DUE.is("at(5)", desk.at(5), -1);
    DUE.is("at(-1)", desk.at(-1), -1);
    DUE.is("at of the least", desk.at(Integer.MIN_VALUE), -1);
    DUE.is("at of the greatest", desk.at(Integer.MAX_VALUE), -1);
    DUE.is("a pair is no number", desk.number(), -1);
    Due.replace(desk, "S 41");
    DUE.is("writing leaves what was told", desk.length(), 5);
    DUE.is("normal", desk.normal(50), 0);
    DUE.is("number", desk.number(), 42);
    DUE.is("length", desk.length(), 2);
    DUE.is("at(2) is gone", desk.at(2), -1);
    DUE.is("check", desk.check(50), 0);
    DUE.is("a type is no number", desk.number(), -1);
    DUE.is("normal", desk.normal(50), 0);
    DUE.is("with little fuel", desk.normal(1), 4);
    DUE.is("no number behind a fault", desk.number(), -1);
    DUE.is("no length behind a fault", desk.length(), 0);
    DUE.is("no character behind a fault", desk.at(0), -1);
    Due.replace(desk, "0");
    desk.normal(50);
    DUE.is("nought is a number", desk.number(), 0);
    Due.replace(desk, "((\\n. S n) : N -> N)");
    desk.normal(50);
    DUE.is("a function is no number", desk.number(), -1);
  }

  private static void refused() {
    TermDesk desk = Due.desk("S 41");
    desk.normal(50);
    int[] bad = {-1, 20001, Integer.MIN_VALUE, Integer.MAX_VALUE};
    for (int fuel : bad) {
      DUE.is("normal(" + fuel + ")", desk.normal(fuel), -1);
      DUE.is("the number stays", desk.number(), 42);
    }
    DUE.is("the least fuel", desk.normal(0), 4);
    DUE.is("the most", desk.normal(20000), 0);
  }
}
