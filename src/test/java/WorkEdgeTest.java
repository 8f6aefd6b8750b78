/** The edges of fuel, cost, uses, THE SAME, numbers and normal forms, and of promises 5 to 11. */
public final class WorkEdgeTest {
  private static final Due DUE = new Due("WorkEdgeTest");
  private static final int[] NO_FUELS = {
    -1, -2, -20000, -65536, 20001, 20002, 65536, 65636, 1 << 20, Integer.MAX_VALUE, Integer.MIN_VALUE,
    Integer.MIN_VALUE + 100,
  };

  public static void main(String[] args) {
    fuels();
    costs();
    fuelThatJustDoes();
    allLookings();
    numberOfLookings();
    bigNumbers();
    uses();
    sameness();
    depthOfTexts();
    lengthOfTexts();
    recursion();
    places();
    characters();
    numbers();
    DUE.end();
  }

  private static void fuels() {
    DUE.sentence("with this fuel (0 .. 20000; else -1)");
    for (int fuel : NO_FUELS) {
      DUE.is("check(" + fuel + ")", Due.desk("N").check(fuel), -1);
      DUE.is("normal(" + fuel + ")", Due.desk("N").normal(fuel), -1);
    }
    DUE.is("check(0)", Due.desk("N").check(0), 4);
    DUE.is("normal(0)", Due.desk("N").normal(0), 4);
    DUE.is("check(0) of what costs nothing", Due.desk("\\x.x").check(0), 3);
    DUE.is("check(20000)", Due.desk("N").check(20000), 0);
    DUE.is("normal(20000)", Due.desk("N").normal(20000), 0);
    DUE.is("check(20000) of no term", Due.desk("").check(20000), 1);
    TermDesk dear = Due.desk(Programs.DEAR);
    DUE.is("normal(20000) of what costs more", dear.normal(20000), 4);
    DUE.is("its cost", dear.cost(), 20000);
    DUE.is("normal(19999)", dear.normal(19999), 4);
    DUE.is("its cost", dear.cost(), 19999);
  }

  private static void cost(String text, int check, int normal) {
    TermDesk desk = Due.desk(text);
    DUE.is("check of " + text, desk.check(20000), 0);
    DUE.is("cost of check of " + text, desk.cost(), check);
    DUE.is("normal of " + text, desk.normal(20000), 0);
    DUE.is("cost of normal of " + text, desk.cost(), normal);
  }

  private static void costs() {
    DUE.sentence("each node worked out counts 1 when that begins (a numeral and a name too)");
    // To tell N, E, a universe or a number costs 1; the rest of normal is to work the term out.
    cost("N", 1, 2);
    cost("E", 1, 2);
    cost("U0", 1, 2);
    cost("0", 1, 2);
    cost("9999", 1, 2);
    // Each number held to N: 1 for THE SAME.
    cost("S 0", 2, 1 + 2 + 1);
    cost("S (S 0)", 3, 2 + 3 + 1);
    // A let: its type's value 1, its t held 1, its t's value 1; worked out: itself, t and the name.
    cost("let x : N = 1; x", 4, 3 + 3 + 1);
    cost("let x : N = 1; 2", 4, 3 + 3 + 1);
    // (t : A): A's value 1, t held 1; worked out: itself and t.
    cost("(1 : N)", 3, 2 + 2 + 1);
    // A pair: the type's value 2, t held 1, t's value 1, B used 2, u held 1; worked out: (:), the pair, t, u.
    cost("((1, 2) : N * N)", 7 + 5, 7 + 4 + 3);
    // A type: itself and A; told: itself, A, B used (1 and its node), B.
    cost("N * N", 1, 2 + 5);
    cost("(x : N) * N", 2, 1 + 2 + 5);
    cost("N * N -> E", 1, 2 + 2 + 3 + 5);
    // A function: the type's value 2, its B used 2, x held 1; worked out: (:) and itself; told: itself, used 2, x.
    cost("((\\x. x) : N -> N)", 5 + 5, 5 + 2 + 4);
  }

  private static void fuelThatJustDoes() {
    DUE.sentence("FAULT 4: the cost would pass the FUEL. COST stays what it was when a fault comes");
    for (String text : Programs.ALL) {
      TermDesk whole = Due.desk(text);
      int fault = whole.check(20000);
      if (fault != 4 && fault != 1) {
        justDoes(text, true, fault, whole.cost(), whole.place(), Due.told(whole));
      }
      fault = whole.normal(20000);
      if (fault != 4 && fault != 1) {
        justDoes(text, false, fault, whole.cost(), whole.place(), Due.told(whole));
      }
    }
  }

  private static int look(TermDesk desk, boolean type, int fuel) {
    return type ? desk.check(fuel) : desk.normal(fuel);
  }

  private static void justDoes(String text, boolean type, int fault, int cost, int place, String told) {
    TermDesk desk = Due.desk(text);
    DUE.is("with " + cost + " of " + text, look(desk, type, cost), fault);
    DUE.is("its cost", desk.cost(), cost);
    DUE.is("its place", desk.place(), place);
    DUE.is("its text", Due.told(desk), told);
    int[] less = {cost - 1, cost - 2, cost / 2, cost / 3, 1, 0};
    for (int fuel : less) {
      if (fuel >= 0 && fuel < cost) {
        DUE.is("with " + fuel + " of " + text, look(desk, type, fuel), 4);
        DUE.is("its cost", desk.cost(), fuel);
        DUE.is("a place", desk.place() >= 0, true);
        DUE.is("no text", desk.length(), 0);
        DUE.is("no number", desk.number(), -1);
      }
    }
  }

  /** An object that has spent these fuels in vain. */
  private static TermDesk spentBy(int... fuels) {
    TermDesk desk = Due.desk(Programs.DEAR);
    for (int fuel : fuels) {
      DUE.is("spending " + fuel, desk.normal(fuel), 4);
      DUE.is("its cost", desk.cost(), fuel);
    }
    return desk;
  }

  private static void allLookings() {
    DUE.sentence("All lookings of one object together cost at most 150000 (FAULT 4 too, where it would be passed)");
    TermDesk exact = spentBy(20000, 20000, 20000, 20000, 20000, 20000, 20000, 9998);
    Due.replace(exact, "  7");
    DUE.is("the last 2", exact.normal(20000), 0);
    DUE.is("their cost", exact.cost(), 2);
    DUE.is("their number", exact.number(), 7);
    DUE.is("one more", exact.check(20000), 4);
    DUE.is("its cost", exact.cost(), 0);
    DUE.is("its place", exact.place(), 2);
    DUE.is("its number", exact.number(), -1);
    DUE.is("its length", exact.length(), 0);
    TermDesk passed = spentBy(20000, 20000, 20000, 20000, 20000, 20000, 20000, 9999);
    Due.replace(passed, "  7");
    DUE.is("2 where 1 is left", passed.normal(20000), 4);
    DUE.is("its cost", passed.cost(), 1);
    DUE.is("its place", passed.place(), 2);
    DUE.is("what was spent in vain counts too", passed.check(20000), 4);
    DUE.is("its cost", passed.cost(), 0);
    Due.replace(passed, "f");
    DUE.is("what costs nothing is as ever", passed.check(20000), 2);
    Due.replace(passed, "\\x. x");
    DUE.is("a type that is wrong without cost", passed.check(20000), 3);
    TermDesk right = Due.desk("((\\x. x) : N -> N)");
    for (int i = 0; i < 128; i++) {
      DUE.is("a looking that is right", right.check(20000), 0);
    }
    Due.replace(right, Programs.DEAR);
    for (int i = 0; i < 7; i++) {
      right.normal(20000);
    }
    DUE.is("what was spent rightly counts too", right.normal(20000), 4);
    DUE.is("what was left", right.cost(), 10000 - 1280);
    DUE.is("another object has its own", Due.desk("N").check(1), 0);
  }

  private static void numberOfLookings() {
    DUE.sentence("at most 256: from the 257th on the answer is 4, at place 0, cost 0");
    String[] texts = {"   7", "   (", "   f", "   \\x. x"};
    int[] faults = {0, 1, 2, 3};
    for (int i = 0; i < texts.length; i++) {
      TermDesk desk = Due.desk(texts[i]);
      for (int n = 1; n <= 256; n++) {
        DUE.is("looking " + n + " at" + texts[i], look(desk, n % 2 == 1, 100), faults[i]);
      }
      DUE.is("the number told by the 256th", desk.number(), faults[i] == 0 ? 7 : -1);
      for (int n = 257; n <= 260; n++) {
        DUE.is("looking " + n + " at" + texts[i], look(desk, n % 2 == 0, 100), 4);
        DUE.is("its place", desk.place(), 0);
        DUE.is("its cost", desk.cost(), 0);
        DUE.is("its length", desk.length(), 0);
        DUE.is("its character", desk.at(0), -1);
        DUE.is("its number", desk.number(), -1);
      }
      Due.replace(desk, "9");
      DUE.is("looking 261, at another text", desk.normal(20000), 4);
      DUE.is("a refused one", desk.normal(20001), -1);
    }
  }

  /** Adds nine to n in so many turns. */
  private static String nines(String n, int turns) {
    String nine = "S(".repeat(8) + "S r" + ")".repeat(8);
    return "R ((\\k. N) : N -> U0) " + n + " (\\k. \\r. " + nine + ") " + turns;
  }

  private static void bigNumbers() {
    DUE.sentence("FAULT 5: a number would count more than 9999");
    DUE.normal("S 9998", 0, -1, "9999");
    DUE.normal(" S 9999", 5, 1, "");
    DUE.normal("S (S 9997)", 0, -1, "9999");
    DUE.normal("S (S 9998)", 5, 0, "");
    DUE.normal("S (S 9999)", 5, 0, "");
    // A number on a stuck value, as the value of a let.
    String before = "((\\n. let b : N = ";
    DUE.check(before + nines("n", 1111) + "; 0) : N -> N)", 0, -1, "(x0:N)->N");
    DUE.check(before + nines("(S n)", 1111) + "; 0) : N -> N)", 5, 6, "");
    DUE.check(before + nines("(S n)", 1110) + "; 0) : N -> N)", 0, -1, "(x0:N)->N");
    DUE.check(before + "S (" + nines("n", 1111) + "); 0) : N -> N)", 5, 6, "");
    DUE.check(before + nines("n", 1112) + "; 0) : N -> N)", 5, 6, "");
    DUE.normal(nines("0", 1111), 0, -1, "9999");
    DUE.normal(" " + nines("1", 1111), 5, 1, "");
    DUE.normal(nines("9", 1110), 0, -1, "9999");
    // The cost of S, 9999; then the fault, before 1 for the telling.
    TermDesk desk = Due.desk("S 9999");
    desk.normal(100);
    DUE.is("its cost", desk.cost(), 3);
    DUE.is("its length", desk.length(), 0);
  }

  private static void uses() {
    DUE.sentence("FAULT 6: more than 25 uses are under way in one another");
    // The use of R's value, and one for each turn within it.
    DUE.normal(Programs.DEEP + "24 0", 0, -1, "24");
    DUE.normal(Programs.DEEP + "25 0", 6, 0, "");
    String stuck = "((\\f. R ((\\k. N -> N) : N -> U0) f (\\k. \\r. \\x. S (r x)) # 0) : (N -> N) -> N)";
    DUE.is("25 with the use around, the last of a stuck one", normal(stuck.replace("#", "23")), 0);
    DUE.is("26 with the use around, the last of a stuck one", normal(stuck.replace("#", "24")), 6);
    // High terms in each of them.
    String high = Programs.DEEP.replace("S (r x)", "S(".repeat(18) + "S (r x)" + ")".repeat(18));
    DUE.normal(high + "24 0", 0, -1, "" + 24 * 19);
    DUE.normal(high + "25 0", 6, 0, "");
    // Uses behind one another are not in one another.
    DUE.normal("R ((\\k. N) : N -> U0) 0 (\\k. \\r. ((\\x. S x) : N -> N) r) 99", 0, -1, "99");
    DUE.normal("R ((\\k. N) : N -> U0) 0 (\\k. \\r. " + Programs.DEEP + "23 r) 2", 0, -1, "46");
    DUE.normal("R ((\\k. N) : N -> U0) 0 (\\k. \\r. " + Programs.DEEP + "24 r) 2", 6, 0, "");
    DUE.sentence("The uses in s's type lie in one another");
    String family = "let d : N -> U0 = \\k. R ((\\k. N -> U0) : N -> U1) (\\x. N) (\\k. \\r. \\x. r x) # k; "
        + "R d 1 (\\k. \\r. r) 0";
    DUE.check(family.replace("#", "21"), 0, -1, "N");
    DUE.check(family.replace("#", "22"), 0, -1, "N");
    String deep = family.replace("#", "23");
    DUE.check(deep, 6, deep.indexOf("(\\k. \\r. r) 0") + 1, "");
    String deeper = family.replace("#", "24");
    DUE.check(deeper, 6, deeper.indexOf("R d"), "");
  }

  private static int normal(String text) {
    return Due.desk(text).normal(20000);
  }

  /** What is the same as itself, with a part so deep in it. */
  private static String law(String iterated, int times) {
    String value = "(" + iterated.replace("#", "" + times) + ")";
    return "((\\e. \\n. \\f. \\g. \\p. \\t. t) : (e : E) -> (n : N) -> (f : N -> N) -> (g : N -> N * N)"
        + " -> (p : N -> U0) -> p " + value + " -> p " + value + ")";
  }

  private static void sameAtMost(String iterated, int times) {
    String good = law(iterated, times);
    String bad = law(iterated, times + 1);
    DUE.is("60 the same: " + good, normal(good), 0);
    DUE.is("61 the same: " + bad, normal(bad), 6);
  }

  private static void sameness() {
    DUE.sentence("THE SAME .. FAULT 6: more than 60 of these in one another");
    String r = "R ((\\k. N) : N -> U0) ";
    // p v: 1; v: 2; then one for each f.
    sameAtMost(r + "n (\\k. \\r. f r) #", 58);
    // Two for each: the number, and what it is on.
    sameAtMost(r + "(f n) (\\k. \\r. f (S r)) #", 28);
    // Two for each: .1 and g's use.
    sameAtMost(r + "n (\\k. \\r. (g r).1) #", 29);
    // In the innermost R the value of M: N, used on a variable.
    sameAtMost(r + "n (\\k. \\r. R ((\\k. N) : N -> U0) 0 (\\k. f) r) #", 57);
    // X at 2, and what is absurd in it.
    sameAtMost("X N (R ((\\k. E) : N -> U0) e (\\k. \\r. X E r) #)", 57);
    String row = "((\\q. q) : p # -> p #)";
    String onLeft = Programs.ROW.replace("N -> t", "t -> N");
    DUE.is("60 in A", normal(onLeft + row.replace("#", "59")), 0);
    DUE.is("61 in A", normal(onLeft + row.replace("#", "60")), 6);
    DUE.is("60 in B", normal(Programs.ROW + row.replace("#", "59")), 0);
    DUE.is("61 in B", normal(Programs.ROW + row.replace("#", "60")), 6);
    String pairs = Programs.ROW.replace("N -> t", "N * t");
    DUE.is("60 in B of pairs", normal(pairs + row.replace("#", "59")), 0);
    DUE.is("61 in B of pairs", normal(pairs + row.replace("#", "60")), 6);
    samePairsAtMost("N * t", "(0, r)", 58);
    samePairsAtMost("t * N", "(r, 0)", 58);
    TermDesk desk = Due.desk(Programs.ROW + "  " + row.replace("#", "60"));
    desk.normal(20000);
    DUE.is("the place of what is held", desk.place(), Programs.ROW.length() + 8);
    DUE.sentence("What is found not the same first ends it");
    String unlike = "((\\q. q) : ((# -> E) * p 60) -> ((N -> N) * p 60))";
    DUE.is("a difference before what is too deep", normal(Programs.ROW + unlike.replace("#", "N")), 3);
    DUE.is("no difference", normal(Programs.ROW + unlike.replace("# -> E", "N -> N")), 6);
  }

  /** Pairs in pairs, as many as the row of their types counts: p v: 1; v: 2; then one for each. */
  private static void samePairsAtMost(String type, String pair, int times) {
    String law = Programs.ROW.replace("N -> t", type)
        + "let v : p # = R p 0 (\\k. \\r. " + pair + ") #; ((\\h. \\t. t) : (h : p # -> U0) -> h v -> h v)";
    DUE.is("60 the same: " + law, normal(law.replace("#", "" + times)), 0);
    DUE.is("61 the same: " + law, normal(law.replace("#", "" + (times + 1))), 6);
  }

  private static void depthOfTexts() {
    DUE.sentence("NORMAL FORM .. FAULT 6: more than 60 in one another");
    DUE.is("60 in B", normal(Programs.ROW + "p 59"), 0);
    DUE.is("61 in B", normal(Programs.ROW + "p 60"), 6);
    String onLeft = Programs.ROW.replace("N -> t", "t -> N");
    DUE.is("60 in A", normal(onLeft + "p 59"), 0);
    DUE.is("61 in A", normal(onLeft + "p 60"), 6);
    String r = "R ((\\k. N) : N -> U0) ";
    // The functions: 1 and 2.
    tellAtMost("(N -> N) -> N", "\\f. \\n. " + r + "n (\\k. \\r. f r) #", 57);
    tellAtMost("(N -> N) -> N", "\\f. \\n. " + r + "(f n) (\\k. \\r. f (S r)) #", 28);
    tellAtMost("(N -> N * N) -> N", "\\g. \\n. " + r + "n (\\k. \\r. (g r).2) #", 28);
    tellAtMost("(N -> N) -> N", "\\f. \\n. " + r + "n (\\k. \\r. R ((\\k. N) : N -> U0) 0 (\\k. f) r) #", 56);
    tellAtMost("E -> N", "\\e. \\n. X N (R ((\\k. E) : N -> U0) e (\\k. \\r. X E r) #)", 56);
    String pairs = Programs.ROW.replace("N -> t", "N * t") + "R p 0 (\\k. \\r. (0, r)) ";
    DUE.is("60 in pairs", normal(pairs + "59"), 0);
    DUE.is("61 in pairs", normal(pairs + "60"), 6);
    // Numbers on a stuck value stand beside one another: 1, 2 and the variable's 3.
    DUE.is("S a hundred times", normal("((\\n. " + r + "n (\\k. \\r. S r) 100) : N -> N)"), 0);
    TermDesk desk = Due.desk(Programs.ROW + "p 60");
    desk.normal(20000);
    DUE.is("the place of the whole", desk.place(), 0);
    DUE.is("no text", desk.length(), 0);
    DUE.sentence("(of the whole term, when its type or value is told or worked out at the end)");
    desk = Due.desk("  (" + Programs.ROW + "p 60)");
    desk.normal(20000);
    DUE.is("brackets around it not counted", desk.place(), 3);
  }

  /** A function of two arguments, the second a number, that can be told with so many in it. */
  private static void tellAtMost(String type, String function, int times) {
    String end = ") : " + type.replaceFirst("N$", "N -> N") + ")";
    String good = "((" + function.replace("#", "" + times) + end;
    String bad = "((" + function.replace("#", "" + (times + 1)) + end;
    DUE.is("60 told: " + good, normal(good), 0);
    DUE.is("61 told: " + bad, normal(bad), 6);
  }

  private static void lengthOfTexts() {
    DUE.sentence("FAULT 7: it would have more than 2000 characters");
    // "\x0.(", 497 times "(S " and ")", "x0", "," and ")": 1997 without the number.
    String pair = "((\\n. (R ((\\k. N) : N -> U0) n (\\k. \\r. S r) 497, #)) : N -> N * N)";
    int[] numbers = {0, 9, 10, 99, 100, 999, 1000, 9999};
    for (int n : numbers) {
      int length = 1997 + ("" + n).length();
      TermDesk desk = Due.desk(pair.replace("#", "" + n));
      DUE.is("a text of " + length, desk.normal(20000), length <= 2000 ? 0 : 7);
      DUE.is("its length", desk.length(), length <= 2000 ? length : 0);
      DUE.is("its place", desk.place(), length <= 2000 ? -1 : 0);
      DUE.is("its last", desk.at(length - 1), length <= 2000 ? ')' : -1);
      DUE.is("behind its last", desk.at(length), -1);
      DUE.is("at(2000)", desk.at(2000), -1);
    }
    String wide = Programs.TREE + "((\\q. 0) : p # -> N)";
    DUE.is("check of what is not too long", Due.desk(wide.replace("#", "5")).check(20000), 0);
    DUE.is("check of what is too long", Due.desk(wide.replace("#", "9")).check(20000), 7);
    DUE.is("its normal is short", Due.desk(wide.replace("#", "9")).normal(20000), 0);
  }

  private static void recursion() {
    DUE.sentence("R M z s t is z for t = 0, and s k (R M z s k) for t = S k");
    String r = "R ((\\k. N) : N -> U0) ";
    DUE.normal(r + "5 (\\k. \\r. k) 0", 0, -1, "5");
    DUE.normal(r + "5 (\\k. \\r. k) 1", 0, -1, "0");
    DUE.normal(r + "5 (\\k. \\r. r) 1", 0, -1, "5");
    DUE.normal(r + "5 (\\k. \\r. k) 2", 0, -1, "1");
    DUE.normal(r + "5 (\\k. \\r. S r) 2", 0, -1, "7");
    DUE.normal("R ((\\k. N * N) : N -> U0) (0, 0) (\\k. \\r. (k, r.1)) 3", 0, -1, "(2,1)");
    DUE.sentence("t's ground with count k; the stuck value itself for 0");
    DUE.normal("((\\n. " + r + "5 (\\k. \\r. k) n) : N -> N)", 0, -1, "\\x0.(R \\x1.N 5 \\x1.\\x2.x1 x0)");
    DUE.normal("((\\n. " + r + "5 (\\k. \\r. k) (S n)) : N -> N)", 0, -1, "\\x0.x0");
    DUE.normal("((\\n. " + r + "5 (\\k. \\r. r) (S n)) : N -> N)", 0, -1, "\\x0.(R \\x1.N 5 \\x1.\\x2.x2 x0)");
    DUE.normal("((\\n. " + r + "5 (\\k. \\r. k) (S (S n))) : N -> N)", 0, -1, "\\x0.(S x0)");
    DUE.normal("((\\n. " + r + "5 (\\k. \\r. k) (S (S (S n)))) : N -> N)", 0, -1, "\\x0.(S (S x0))");
  }

  private static void places() {
    DUE.sentence("The place of the latest fault; -1 if there was none, or no looking");
    TermDesk desk = new TermDesk();
    DUE.is("no looking", desk.place(), -1);
    Due.put(desk, "N");
    DUE.is("a text that is not looked at", desk.place(), -1);
    DUE.is("a right one", desk.check(9), 0);
    DUE.is("no fault", desk.place(), -1);
    String[] wrong = {" (", "  f", "   \\x.x", "    S 9999", Programs.ROW + "p 60"};
    int[] faults = {1, 2, 3, 5, 6};
    int[] places = {2, 2, 3, 4, 0};
    for (int i = 0; i < wrong.length; i++) {
      Due.replace(desk, wrong[i]);
      DUE.is(wrong[i], desk.normal(20000), faults[i]);
      DUE.is("its place", desk.place(), places[i]);
      Due.replace(desk, "N");
      DUE.is("writing leaves the place", desk.place(), places[i]);
      DUE.is("a right one", desk.normal(20000), 0);
      DUE.is("no fault", desk.place(), -1);
    }
    DUE.sentence("What the latest looking cost");
    DUE.is("a right one's", desk.cost(), 2);
    Due.replace(desk, "S 1");
    DUE.is("writing leaves the cost", desk.cost(), 2);
    desk.check(20000);
    DUE.is("the next one's", desk.cost(), 2);
    desk.check(1);
    DUE.is("with too little", desk.cost(), 1);
    desk.erase();
    desk.check(20000);
    DUE.is("of an empty text", desk.cost(), 0);
  }

  private static void characters() {
    DUE.sentence("Character i of it (0 the first); -1 if there is none");
    TermDesk desk = Due.desk("N -> 7");
    DUE.is("nothing told", desk.at(0), -1);
    DUE.is("a fault", desk.check(99), 3);
    DUE.is("nothing told", desk.at(0), -1);
    Due.replace(desk, "N -> E");
    DUE.is("normal", desk.normal(99), 0);
    String told = "(x0:N)->E";
    DUE.is("its length", desk.length(), told.length());
    for (int i = -3; i < told.length() + 3; i++) {
      DUE.is("at(" + i + ")", desk.at(i), i >= 0 && i < told.length() ? told.charAt(i) : -1);
    }
    int[] far = {Integer.MIN_VALUE, Integer.MAX_VALUE, 800, 1999, 2000, 65536, 1 << 30, -65536};
    for (int i : far) {
      DUE.is("at(" + i + ")", desk.at(i), -1);
    }
    DUE.sentence("The length of the latest text told; 0 if there was none, or its looking had a fault");
    DUE.is("a shorter one", desk.check(99), 0);
    DUE.is("its length", desk.length(), 2);
    DUE.is("its last", desk.at(1), '0');
    DUE.is("nothing of the longer one", desk.at(2), -1);
    DUE.is("a fault", desk.check(0), 4);
    DUE.is("its length", desk.length(), 0);
    DUE.is("its first", desk.at(0), -1);
    DUE.is("a new object's", new TermDesk().length(), 0);
  }

  private static void numbers() {
    DUE.sentence("Whether the value of the latest text told is a number on 0, and which; -1 if not");
    DUE.is("a new object's", new TermDesk().number(), -1);
    String[] texts = {"0", "1", "9999", "S 9998", "0000", "(3 : N)", "((4, 5) : N * N).2", Programs.ADD + "add 2 2"};
    int[] wanted = {0, 1, 9999, 9999, 0, 3, 5, 4};
    TermDesk desk = new TermDesk();
    for (int i = 0; i < texts.length; i++) {
      Due.replace(desk, texts[i]);
      DUE.is("normal of " + texts[i], desk.normal(20000), 0);
      DUE.is("number of " + texts[i], desk.number(), wanted[i]);
      DUE.is("check of " + texts[i], desk.check(20000), 0);
      DUE.is("no number is the type of " + texts[i], desk.number(), -1);
    }
    String[] others = {"N", "E", "U0", "N -> N", "((1, 2) : N * N)", "((\\x. 3) : N -> N)", "((\\x. S x) : N -> N)"};
    for (String text : others) {
      Due.replace(desk, text);
      DUE.is("normal of " + text, desk.normal(20000), 0);
      DUE.is("no number is " + text, desk.number(), -1);
    }
    Due.replace(desk, "7");
    desk.normal(2);
    DUE.is("with just enough", desk.number(), 7);
    Due.replace(desk, "8");
    DUE.is("writing leaves it", desk.number(), 7);
    desk.normal(1);
    DUE.is("with too little", desk.number(), -1);
  }
}
