/** Texts, most with right types, that use every rule of the document, for tests that look at whole programs. */
final class Programs {
  static final String ADD =
      "let add : N -> N -> N = \\m. \\n. R ((\\k. N) : N -> U0) n (\\k. \\r. S r) m;\n";
  static final String TWO = "let two : (a : U0) -> (a -> a) -> a -> a = \\a. \\f. \\x. f (f x);\n";
  static final String EQ = "let eq : N -> N -> U1 = \\a. \\b. (p : N -> U0) -> p a -> p b;\n";
  static final String VEC =
      "let vec : N -> U0 = \\n. R ((\\k. U0) : N -> U1) N (\\k. \\t. N * t) n;\n";

  /** A proof that n + 0 is n for every n. */
  static final String INDUCTION = ADD + EQ
      + "((\\n. R ((\\k. eq (add k 0) k) : N -> U1) (\\p. \\t. t) (\\k. \\r. \\p. r (\\j. p (S j))) n)"
      + " : (n : N) -> eq (add n 0) n)";
  /** What costs more than any fuel to work out. */
  static final String DEAR = "R ((\\k. N) : N -> U0) 0 (\\k. \\r. S r) 9999";
  /** A function that goes n + 1 uses deep. */
  static final String DEEP = "R ((\\k. N -> N) : N -> U0) (\\x. x) (\\k. \\r. \\x. S (r x)) ";
  /** A type of functions with n arguments. */
  static final String ROW = "let p : N -> U0 = \\n. R ((\\k. U0) : N -> U1) N (\\k. \\t. N -> t) n;\n";
  /** A type of pairs with 2 to the n-th numbers. */
  static final String TREE = "let p : N -> U0 = \\n. R ((\\k. U0) : N -> U1) N (\\k. \\t. t * t) n;\n";

  static final String[] ALL = {
    "N", "E", "U0", "U1", "7", "S 7", "S (S 0)", "(3 : N)", "N -> N", "N * E", "(x : N) -> N",
    "(x : U0) * x", "(a : U0) -> (b : U1) -> a -> b -> U0", "((x : N) * E) -> U1",
    ADD + "add 20 22",
    ADD + "add",
    ADD + "((\\n. add 3 n) : N -> N)",
    ADD + "((\\n. add (S (S n)) 3) : N -> N)",
    ADD + "let mul : N -> N -> N = \\m. \\n. R ((\\k. N) : N -> U0) 0 (\\k. \\r. add n r) m; mul 6 7",
    TWO + "two N (\\n. S n) 3",
    TWO + "two (N -> N) (two N) (\\n. S n) 0",
    TWO + "two ((N -> N) -> N -> N) (two (N -> N)) (two N) (\\n. S n) 0",
    "let p : N -> U0 = \\n. R ((\\k. U0) : N -> U1) N (\\k. \\t. t -> N) n;\n((\\q. q) : p 2 -> (N -> N) -> N)",
    "((\\p. \\t. t) : (p : N -> U0) -> p (S 1) -> p 2)",
    "((\\f. \\p. \\t. t) : (f : N -> N) -> (p : (N -> N) -> U0) -> p f -> p (\\x. f x))",
    "((\\q. \\p. \\t. t) : (q : N * N) -> (p : (N * N) -> U0) -> p q -> p (q.1, q.2))",
    "((\\q. \\p. \\t. t) : (q : N * N) -> (p : (N * N) -> U0) -> p (q.1, q.2) -> p q)",
    "((\\e. X N e) : E -> N)",
    "((\\e. \\p. \\t. t) : (e : E) -> (p : N -> U0) -> p (X N e) -> p (X N e))",
    "((\\e. X (N -> N) e 3) : E -> N)",
    "((\\n. R ((\\k. N) : N -> U0) 0 (\\k. \\r. S r) (S (S n))) : N -> N)",
    INDUCTION,
    ADD + EQ + "((\\p. \\t. t) : eq (add 2 3) 5)",
    ADD + EQ + "((\\p. \\t. t) : eq (add 2 3) 6)",
    VEC + "((1, (2, 3)) : vec 2)",
    VEC + "((1, (2, (3, 4))) : vec 3).2.1",
    "((3, \\x. x) : (n : N) * (N -> N)).2 5",
    "((N, 4) : (a : U0) * a)",
    "((N, 4) : (a : U0) * a).2",
    "((\\q. q.2) : (q : (a : U0) * a) -> q.1)",
    "((\\q. \\p. \\t. t) : (q : (a : U0) * (a * N)) -> (p : N -> U0) -> p q.2.2 -> p (q.2).2)",
    "let x : N = 1; let x : N = S x; (x, x : N * N)",
    "let x : N = 1; let y : N = S x; ((x, y) : N * N)",
    "let s : (k : N) -> N -> N = \\k. \\r. S r; R ((\\k. N) : N -> U0) 1 s 4",
    "let m : N -> U0 = \\k. N; R m 1 (\\k. let u : N -> N = \\r. S (S r); u) 4",
    "R ((\\k. (x : N) -> N) : N -> U0) (\\x. x) (\\k. \\r. \\x. S (r x)) 5 6",
    "((\\m. \\z. \\s. \\n. R m z s n) : (m : N -> U0) -> m 0 -> ((k : N) -> m k -> m (S k)) -> (n : N) -> m n)",
    "((\\m. \\z. \\s. \\n. R m z s (S (S n))) : (m : N -> U0) -> (z : m 0)"
        + " -> (s : (k : N) -> m k -> m (S k)) -> (n : N) -> m (S (S n)))",
    "((\\f. \\p. \\t. t) : (f : N -> N * N) -> (p : N -> U0) -> p (f 3).1 -> p (f 3).1)",
    "((\\n. \\p. \\t. t) : (n : N) -> (p : N -> U0) -> p (R ((\\k. N) : N -> U0) 0 (\\k. \\r. k) n)"
        + " -> p (R ((\\k. N) : N -> U0) 0 (\\j. \\r. j) n))",
    "let id : (a : U1) -> a -> a = \\a. \\x. x; id U0 N",
    "let c : N -> N = \\n. R ((\\k. N) : N -> U0) n (\\k. \\r. S (S (S (S r)))) n; c (c (c (c (c 1))))",
    "let d : (N -> N) -> N -> N = \\f. \\n. S (S (f n));"
        + " d (d (d (d (d (d (d (d (d (d (d (\\n. n))))))))))) 0",
    "S 9999",
    "R ((\\k. N) : N -> U0) 9990 (\\k. \\r. S r) 9",
    "R ((\\k. N) : N -> U0) 9990 (\\k. \\r. S r) 10",
    "((\\n. R ((\\k. N) : N -> U0) n (\\k. \\r. S (S (S r))) 3333) : N -> N)",
    "((\\n. R ((\\k. N) : N -> U0) (S n) (\\k. \\r. S (S (S r))) 3333) : N -> N)",
    DEEP + "24 0",
    DEEP + "25 0",
    "((" + DEEP + "24) : N -> N)",
    "((" + DEEP + "25) : N -> N)",
    "((\\f. " + DEEP + "24 (f 0)) : (N -> N) -> N)",
    "((\\f. R ((\\k. N -> N) : N -> U0) (\\x. f x) (\\k. \\r. \\x. S (r x)) 24 0) : (N -> N) -> N)",
    ROW + "((\\q. q) : p 59 -> p 59)",
    ROW + "((\\q. q) : p 60 -> p 60)",
    ROW + "p 59",
    ROW + "p 60",
    ROW + "(p 9, p 9)",
    TREE + "p 3",
    TREE + "p 7",
    TREE + "p 9",
    TREE + "((\\q. q) : p 7 -> p 7)",
    "((\\n. R ((\\k. N) : N -> U0) n (\\k. \\r. S r) 499) : N -> N)",
    "((\\n. R ((\\k. N) : N -> U0) n (\\k. \\r. S r) 498) : N -> N)",
  };

  private Programs() {}
}
