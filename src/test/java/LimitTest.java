/** Faults 5, 6 and 7 at their edges. */
public final class LimitTest {
  private static final Due DUE = new Due("LimitTest");

  public static void main(String[] args) {
    bigNumbers();
    deepUses();
    deepSameness();
    deepTexts();
    longTexts();
    DUE.end();
  }

  private static void bigNumbers() {
    DUE.normal("S 9998", 0, -1, "9999");
    DUE.normal("S 9999", 5, 0, "");
    DUE.check("S 9999", 0, -1, "N");
    DUE.normal("  (S 9999)", 5, 3, "");
    // The value of u is wanted for the type of a use: the place is that of the use.
    DUE.fault("N -> ((\\x. N) : N -> U0) (S 9999)", 5, 5);
    DUE.normal("R ((\\k. N) : N -> U0) 9990 (\\k. \\r. S r) 9", 0, -1, "9999");
    DUE.normal("R ((\\k. N) : N -> U0) 9990 (\\k. \\r. S r) 10", 5, 0, "");
    TermDesk desk = Due.desk("S 9999");
    desk.normal(50);
    DUE.is("the cost of a number too big", desk.cost(), 3);
  }

  private static void deepUses() {
    DUE.normal(Programs.DEEP + "24 0", 0, -1, "24");
    DUE.normal(Programs.DEEP + "25 0", 6, 0, "");
    DUE.check(Programs.DEEP + "25 0", 0, -1, "N");
    // A stuck function's use counts too.
    String stuck = "((\\f. R ((\\k. N -> N) : N -> U0) (\\x. f x) (\\k. \\r. \\x. S (r x)) ";
    DUE.is("25 uses, the last of a stuck one", Due.desk(stuck + "22 0) : (N -> N) -> N)").normal(20000), 0);
    DUE.is("26 uses, the last of a stuck one", Due.desk(stuck + "23 0) : (N -> N) -> N)").normal(20000), 6);
    // s's type: its own use, and M's uses within it.
    DUE.is("uses in the type of s", Due.desk(family(23)).check(20000), 0);
    DUE.fault(family(24), 6, family(24).indexOf("(\\k. \\r. r) 0") + 1);
    TermDesk desk = Due.desk(Programs.DEEP + "25 0");
    desk.check(20000);
    int typed = desk.cost() - 1;
    desk.normal(20000);
    // Two uses; R, M, M's \\, z, s, 25; 25 turns of 4; 0; 26 uses; S, r x, r, x in 25 of them.
    DUE.is("the cost of going too deep", desk.cost() - typed, 1 + 6 + 100 + 1 + 26 + 100);
  }

  /** R with an M that goes n + 1 uses deep on any number, and so n + 2 within the type of s. */
  private static String family(int n) {
    return "let d : N -> U0 = \\k. R ((\\k. N -> U0) : N -> U1) (\\x. N) (\\k. \\r. \\x. r x) " + (n - 1) + " k;\n"
        + "R d 1 (\\k. \\r. r) 0";
  }

  private static void deepSameness() {
    DUE.normal(Programs.ROW + "((\\q. q) : p 59 -> p 59)", 0, -1, "\\x0.x0");
    DUE.fault(Programs.ROW + "((\\q. q) : p 60 -> p 60)", 6, Programs.ROW.length() + 6);
  }

  private static void deepTexts() {
    TermDesk desk = Due.desk(Programs.ROW + "p 59");
    DUE.is("60 in one another", desk.normal(20000), 0);
    DUE.is("its text", Due.told(desk).endsWith("(x57:N)->(x58:N)->N"), true);
    DUE.normal(Programs.ROW + "p 60", 6, 0, "");
    DUE.check(Programs.ROW + "((\\q. q) : p 59 -> p 59)", 6, 0, "");
  }

  private static void longTexts() {
    String row = "((\\n. R ((\\k. N) : N -> U0) n (\\k. \\r. S r) ";
    TermDesk desk = Due.desk(row + "498) : N -> N)");
    DUE.is("1998 characters", desk.normal(20000), 0);
    DUE.is("its length", desk.length(), 1998);
    DUE.is("its last", desk.at(1997), ')');
    DUE.is("behind it", desk.at(1998), -1);
    Due.replace(desk, row + "499) : N -> N)");
    DUE.is("2002 characters", desk.normal(20000), 7);
    DUE.is("its length", desk.length(), 0);
    DUE.is("its place", desk.place(), 0);
    // The pair adds "(,)" and its digits to 1994.
    String pair = "((\\n. (R ((\\k. N) : N -> U0) n (\\k. \\r. S r) 497, ";
    desk = Due.desk(pair + "123)) : N -> N * N)");
    DUE.is("2000 characters", desk.normal(20000), 0);
    DUE.is("its length", desk.length(), 2000);
    Due.replace(desk, pair + "1234)) : N -> N * N)");
    DUE.is("2001 characters", desk.normal(20000), 7);
    Due.replace(desk, "7");
    DUE.is("a short one behind it", desk.normal(20000), 0);
    DUE.is("its text", Due.told(desk), "7");
  }
}
