import java.util.ArrayList;
import java.util.List;

/** The edges of the grammar, of open terms, nodes and heights (fault 1), and of names (fault 2). */
public final class ReadingEdgeTest {
  private static final Due DUE = new Due("ReadingEdgeTest");

  /** Each kind of node: its text, how many nodes are in it beside itself, where its first token stands. */
  private record Kind(String text, int inside, int first) {
    boolean inBrackets() {
      return first > 0 && text.endsWith(")");
    }
  }

  private static final Kind[] KINDS = {
    new Kind("x", 0, 0), new Kind("U0", 0, 0), new Kind("N", 0, 0), new Kind("E", 0, 0), new Kind("7", 0, 0),
    new Kind("S 7", 1, 0), new Kind("R 1 2 3 4", 4, 0), new Kind("X 1 2", 2, 0), new Kind("N 1", 2, 0),
    new Kind("N 1 2", 4, 0), new Kind("S 1 2", 3, 0), new Kind("(1,2)", 2, 0), new Kind("N.1", 1, 0),
    new Kind("N.2", 1, 0), new Kind("\\x.7", 1, 0), new Kind("N->N", 2, 0), new Kind("N*N", 2, 0),
    new Kind("(x:N)->N", 2, 0), new Kind("(x:N)*N", 2, 0), new Kind("(1:N)", 2, 0), new Kind("(x:N)", 2, 0),
    new Kind("let x:N=1;2", 3, 0), new Kind("(N)", 0, 1), new Kind("((S 7))", 1, 2), new Kind("(N) 1", 2, 1),
    new Kind("(N).1", 1, 1), new Kind("(N)->N", 2, 1), new Kind("(N)*N", 2, 1), new Kind("((1,2)).1", 3, 1),
    new Kind("((x:N)->N)*N", 4, 1), new Kind("( ( x : N))", 2, 2), new Kind("(\\x.7) 2", 3, 1),
    new Kind("(S 7) 1", 3, 1), new Kind("( N) 1 2", 4, 2),
  };

  /** Nodes with a part that stands for #, and where their first token stands. */
  private static final String[] FRAMES = {
    "S #", "R # N N N", "R N # N N", "R N N # N", "R N N N #", "X # N", "X N #", "# N", "N #", "(#,N)", "(N,#)",
    "#.1", "#.2", "\\x. #", "#->N", "N->#", "#*N", "N*#", "(x:#)->N", "(x:N)->#", "(x:#)*N", "(x:N)*#", "(#:N)",
    "(N:#)", "(x:#)", "let x:#=1;2", "let x:N=#;2", "let x:N=1;#",
  };

  /** What opens one more term for the token behind it, and where it opens its first. */
  private record Opener(String text, int first) {}

  private static final Opener[] OPENERS = {
    new Opener("(", 1), new Opener("(N,", 1), new Opener("(N:", 1), new Opener("\\x.", 3), new Opener("let x:", 6),
    new Opener("let x:N=", 6), new Opener("let x:N=1;", 6), new Opener("(x:", 3), new Opener("(x:N)->", 3),
    new Opener("(x:N)*", 3), new Opener("N->", 3), new Opener("N*", 2), new Opener("S(", 2), new Opener("R N(", 4),
    new Opener("X N N(", 6), new Opener("N(", 2), new Opener("N.1(", 4),
  };

  public static void main(String[] args) {
    oneTerm();
    fullText();
    tokenByToken();
    tooFewParts();
    whatStandsBehind();
    openTerms();
    closedTerms();
    colonsBeforeOpening();
    nodes();
    nodesMetInReading();
    heights();
    unknownNames();
    DUE.end();
  }

  private static void oneTerm() {
    DUE.sentence("The text is one term .. the text's length for its end");
    DUE.fault("", 1, 0);
    DUE.fault("   ", 1, 3);
    DUE.fault("(", 1, 1);
    DUE.fault("(  \n", 1, 4);
    DUE.fault("N ->", 1, 4);
    DUE.fault("N ->  ", 1, 6);
    DUE.check("N", 0, -1, "U0");
    DUE.fault("N)", 1, 1);
    DUE.fault("N \\x.x", 1, 2);
    DUE.fault("N let x:N=1;1", 1, 2);
    DUE.fault("N;N", 1, 1);
    DUE.fault("N,N", 1, 1);
    DUE.fault("N:U0", 1, 1);
    DUE.fault("N S 1", 1, 2);
  }

  private static void fullText() {
    DUE.sentence("THE TEXT has at most 800 characters");
    // 300 nodes, and as many tokens as characters.
    String tokens = Texts.tree(150).replaceFirst("1", "S1");
    for (int i = 0; i < 101; i++) {
      tokens = tokens.replaceFirst("([(,])1", "$1(2)");
    }
    DUE.is("its characters", tokens.length(), 800);
    DUE.fault(tokens, 3, 0);
    DUE.fault(tokens.substring(0, 799), 1, 799);
    DUE.fault(tokens.substring(0, 799) + "?", 1, 799);
    DUE.fault(tokens.substring(0, 799) + ";", 1, 799);
  }

  /** Where tokens of this text begin. */
  private static List<Integer> cuts(String text) {
    List<Integer> cuts = new ArrayList<>();
    for (int i = 0; i < text.length(); i++) {
      char before = i == 0 ? ' ' : text.charAt(i - 1);
      if ("( \n,)".indexOf(before) >= 0 && " \n".indexOf(text.charAt(i)) < 0) {
        cuts.add(i);
      }
    }
    return cuts;
  }

  private static void tokenByToken() {
    DUE.sentence("the first token with which the tokens up to there are not the beginning of a term");
    for (String text : Programs.ALL) {
      boolean whole = placeOfFault1(text) == -1;
      for (int cut : whole ? cuts(text) : List.<Integer>of()) {
        String begun = text.substring(0, cut);
        TermDesk desk = Due.desk(begun);
        boolean unread = desk.check(0) == 1;
        DUE.is("the end of " + begun, unread ? desk.place() : begun.length(), begun.length());
        desk.write('?');
        DUE.is("check with ? of " + begun, desk.check(0), 1);
        DUE.is("the ? of " + begun, desk.place(), begun.length());
        Due.replace(desk, begun + "=;");
        DUE.is("check with = of " + begun, desk.check(0), 1);
        // An = may stand behind a let's type, but then no ; behind that.
        DUE.is("the = of " + begun, desk.place() - begun.length() <= 1, true);
        DUE.is("not before it: " + begun, desk.place() >= begun.length(), true);
      }
    }
  }

  private static void tooFewParts() {
    DUE.sentence("head: S atom | R atom atom atom atom | X atom atom");
    DUE.fault("S", 1, 1);
    DUE.check("S 1", 0, -1, "N");
    DUE.fault("X", 1, 1);
    DUE.fault("X N", 1, 3);
    DUE.fault("X N 1", 3, 4);
    DUE.fault("R", 1, 1);
    DUE.fault("R 1", 1, 3);
    DUE.fault("R 1 2", 1, 5);
    DUE.fault("R 1 2 3", 1, 7);
    DUE.fault("R 1 2 3 4", 3, 2);
    DUE.fault("(R 1 2 3)", 1, 8);
    DUE.fault("S ->", 1, 2);
    DUE.fault("R 1 2 S 3", 1, 6);
    DUE.fault("S 1 2", 3, 0);
    DUE.fault("X N 1 2", 3, 4);
    DUE.sentence("base: ( term ) | ( term , term ) | ( term : term )");
    DUE.fault("()", 1, 1);
    DUE.fault("(,1)", 1, 1);
    DUE.fault("(1,)", 1, 3);
    DUE.fault("(1:)", 1, 3);
    DUE.fault("(1,2", 1, 4);
    DUE.fault("(1,2,3)", 1, 4);
    DUE.fault("(1,2:N)", 1, 4);
    DUE.fault("(1:N,2)", 1, 4);
    DUE.fault("(x:)", 1, 3);
    DUE.fault("(x:N,1)", 1, 4);
    DUE.fault("(x:N:N)", 1, 4);
    DUE.fault("(x:N", 1, 4);
    DUE.fault("(x:N)->", 1, 7);
    DUE.fault("(x:N)*", 1, 6);
    DUE.sentence("\\ NAME . term | let NAME : term = term ; term");
    DUE.fault("\\", 1, 1);
    DUE.fault("\\.x", 1, 1);
    DUE.fault("\\x", 1, 2);
    DUE.fault("\\x.", 1, 3);
    DUE.fault("\\x y.x", 1, 3);
    DUE.fault("\\(x).x", 1, 1);
    DUE.fault("let", 1, 3);
    DUE.fault("let x", 1, 5);
    DUE.fault("let x=1;x", 1, 5);
    DUE.fault("let x:", 1, 6);
    DUE.fault("let x:N", 1, 7);
    DUE.fault("let x:N;x", 1, 7);
    DUE.fault("let x:N=", 1, 8);
    DUE.fault("let x:N=1", 1, 9);
    DUE.fault("let x:N=1.x", 1, 9);
    DUE.fault("let x:N=1;", 1, 10);
  }

  private static void whatStandsBehind() {
    DUE.sentence("In ( NAME : term ) it is what stands behind the ) that decides");
    DUE.check("(x:N)->N", 0, -1, "U0");
    DUE.check("(x:N)*N", 0, -1, "U0");
    DUE.fault("(x:N)", 2, 1);
    DUE.fault("(x:N).1->N", 2, 1);
    DUE.fault("(x:N) 1->N", 2, 1);
    DUE.fault("((x:N))->N", 2, 2);
    DUE.fault("N->(x:N)", 2, 4);
    DUE.check("N->(x:N)->N", 0, -1, "U0");
    DUE.check("let x:N=1;(x:N)->N", 0, -1, "U0");
    DUE.normal("let x:N=1;(x:N)", 0, -1, "1");
    DUE.sentence("a binder, which only a term may be");
    DUE.fault("N (x:N)->N", 1, 7);
    DUE.fault("N (x:N)*N", 1, 7);
    DUE.fault("S (x:N)->N", 1, 7);
    DUE.fault("X (x:N)->N", 1, 7);
    DUE.fault("X N (x:N)->N", 1, 9);
    DUE.fault("R (x:N)*N", 1, 7);
    DUE.fault("R 1 (x:N)*N", 1, 9);
    DUE.fault("R 1 2 (x:N)*N", 1, 11);
    DUE.fault("R 1 2 3 (x:N)*N", 1, 13);
    DUE.fault("N ((x:N)->N)", 3, 0);
    DUE.fault("N (x:N)", 2, 3);
    DUE.fault("N ((x:N))->N", 2, 4);
  }

  private static void openTerms() {
    DUE.sentence("at most 30 are open at once (the 31st: at its first token)");
    for (Opener opener : OPENERS) {
      String most = opener.text.repeat(29);
      DUE.is("30 open by " + opener, placeOfFault1(most + "N?"), most.length() + 1);
      DUE.is("31 open by " + opener, placeOfFault1(most + opener.text + "N?"), most.length() + opener.first);
    }
    String[] firsts = {"\\", "let ", "S ", "R ", "X ", "U0", "N", "E", "7", "x ", "(1", "=", ")", "->", ""};
    for (String first : firsts) {
      String most = "(".repeat(30);
      DUE.is("the 31st with " + first, placeOfFault1(most + first), 30);
      DUE.is("a blank before it, " + first, placeOfFault1(most + "\n " + first), 32);
    }
    DUE.check("(".repeat(29) + "N" + ")".repeat(29), 0, -1, "U0");
    DUE.fault("(".repeat(30) + "N" + ")".repeat(30), 1, 30);
  }

  private static int placeOfFault1(String text) {
    TermDesk desk = Due.desk(text);
    return desk.check(20000) == 1 ? desk.place() : -1;
  }

  private static void closedTerms() {
    DUE.sentence("A term is OPEN from its first token till it is complete");
    String side = "(".repeat(28) + "N" + ")".repeat(28);
    DUE.check(side + "->" + side.substring(1, side.length() - 1), 0, -1, "U0");
    DUE.check(side + "->" + side, 0, -1, "U0");
    DUE.fault(side + "->(" + side + ")", 1, side.length() + 31);
    DUE.check("(x:" + side + ")*" + side, 0, -1, "U0");
    DUE.fault("(x:(" + side + "))*N", 1, 32);
    DUE.fault("(" + side + "," + side + ")", 3, 0);
    DUE.fault("((" + side + "," + side + "))", 1, 30);
    DUE.fault("(" + side + ",(" + side + "))", 1, side.length() + 31);
  }

  private static void colonsBeforeOpening() {
    DUE.sentence("whether a : stands behind the NAME in ( NAME is looked at before that is opened as a term");
    String most = "(".repeat(29);
    DUE.is("no token behind the NAME", placeOfFault1(most + "(x ?"), 32);
    DUE.is("a token behind the NAME", placeOfFault1(most + "(x )"), 30);
    DUE.is("the end behind the NAME", placeOfFault1(most + "(x "), 30);
    DUE.sentence(".. but nothing else");
    DUE.is("no token behind a numeral", placeOfFault1(most + "(7 ?"), 30);
    DUE.is("no token behind the second", placeOfFault1(most + "(x y?"), 30);
    DUE.is("no token behind let", placeOfFault1(most + "(let ?"), 30);
    DUE.sentence("the NAME in ( NAME : term ) is not open");
    DUE.is("the term behind the :", placeOfFault1(most + "(x : N"), 34);
    DUE.is("no token behind the :", placeOfFault1(most + "(x : ?"), 34);
    DUE.is("one less", placeOfFault1(most.substring(1) + "(x : N ?"), 35);
  }

  private static void nodes() {
    DUE.sentence("NODES .. at most 300 (the 301st: at its first token)");
    for (Kind kind : KINDS) {
      String all = "(" + Texts.nodes(298 - kind.inside) + ", " + kind.text + ")";
      DUE.is("300 nodes with " + kind.text, placeOfFault1(all), -1);
      String outer = "(" + Texts.nodes(299 - kind.inside) + ", " + kind.text + ")";
      DUE.is("the 301st around " + kind.text, placeOfFault1(outer), 0);
      String before = "(" + Texts.nodes(300 - kind.inside) + ", ";
      DUE.is("the 301st " + kind.text, placeOfFault1(before + kind.text + ")"), before.length() + kind.first);
    }
  }

  private static void nodesMetInReading() {
    DUE.sentence("complete when their last token is read and the next one looked at");
    for (Kind kind : KINDS) {
      String before = "(" + Texts.nodes(300 - kind.inside) + ", ";
      int first = before.length() + kind.first;
      int end = before.length() + kind.text.length();
      DUE.is("no end behind " + kind.text, placeOfFault1(before + kind.text), first);
      DUE.is("a wrong token behind " + kind.text, placeOfFault1(before + kind.text + " ="), first);
      DUE.sentence("where no token begins is met before nodes end there");
      DUE.is("no token behind " + kind.text, placeOfFault1(before + kind.text + " ?"),
          kind.inBrackets() ? first : end + 1);
      DUE.sentence("complete when their last token is read and the next one looked at");
    }
    DUE.sentence("the NAME in ( NAME : term ) is .. a node, if it is one, behind the )");
    String full = "(" + Texts.nodes(300) + ",";
    String nearly = "(" + Texts.nodes(299) + ",";
    String less = "(" + Texts.nodes(298) + ",";
    DUE.is("the term is the 301st", placeOfFault1(full + "(x:N))"), full.length() + 3);
    DUE.is("the NAME is", placeOfFault1(nearly + "(x:N))"), nearly.length() + 1);
    DUE.is("the brackets are", placeOfFault1(less + "(x:N))"), less.length());
    DUE.is("no token behind the )", placeOfFault1(nearly + "(x:N)?"), nearly.length() + 5);
    DUE.is("no ) behind it", placeOfFault1(nearly + "(x:N;"), nearly.length() + 4);
    DUE.is("a binder's NAME is none", placeOfFault1(nearly + "(x:N)->1)"), nearly.length() + 7);
    DUE.is("the binder is", placeOfFault1(less + "(x:N)->1)"), less.length());
  }

  private static void heights() {
    DUE.sentence("The HEIGHT of a node .. at most 30 (else: at its first token)");
    DUE.is("30 high", placeOfFault1(Texts.tall(30)), -1);
    DUE.is("31 high", placeOfFault1("  " + Texts.tall(31)), 2);
    for (String frame : FRAMES) {
      String good = "  " + frame.replace("#", Texts.tall(29));
      DUE.is("30 high: " + frame, placeOfFault1(good), -1);
      String bad = "  " + frame.replace("#", Texts.tall(30));
      DUE.is("31 high: " + frame, placeOfFault1(bad), 2);
      DUE.is("31 high, a wrong token behind: " + frame, placeOfFault1(bad + ";"), 2);
      DUE.is("31 high, no token behind: " + frame, placeOfFault1(bad + " ?"), bad.length() + 1);
      String inner = "(1, " + frame.replace("#", "(" + Texts.tall(30) + ")") + ")";
      int first = frame.startsWith("#") ? 5 : 4;
      DUE.is("31 high, within: " + frame, placeOfFault1(inner), first);
    }
    DUE.sentence("one more than the greatest height of what it has as parts");
    String tallest = Texts.tall(28);
    DUE.is("two parts of 28", placeOfFault1("((" + tallest + "," + tallest + "),1)"), -1);
    DUE.is("29 and 1 on the left", placeOfFault1("((" + tallest + ".1,1),1)"), 0);
    DUE.is("29 and 1 on the right", placeOfFault1("((1," + tallest + ".1),1)"), 0);
  }

  private static void unknownNames() {
    DUE.sentence("FAULT 2: a name means nothing (.. behind fault 1, the first in the text)");
    DUE.fault("x", 2, 0);
    DUE.fault("x y", 2, 0);
    DUE.fault("(y : x)", 2, 1);
    DUE.fault("((y : x) : z)", 2, 2);
    DUE.fault("\\x.x y", 2, 5);
    DUE.fault("x =", 1, 2);
    DUE.fault("x " + Texts.tall(31), 1, 2);
    DUE.fault("3 4 x", 2, 4);
    DUE.fault("(S U0 : x)", 2, 8);
    DUE.sentence("FAULT 2 comes before any cost");
    TermDesk desk = Due.desk("N x");
    DUE.is("with no fuel", desk.check(0), 2);
    DUE.is("its cost", desk.cost(), 0);
    DUE.sentence("what stands before the . of \\ and behind the : of the others is outside");
    DUE.fault("(x : x) -> N", 2, 5);
    DUE.fault("(x : N) -> x", 3, 11);
    DUE.fault("((x : N) -> N) -> x", 2, 18);
    DUE.fault("(x : N) * (y : x) -> y", 3, 15);
    DUE.fault("let x : x = 1; 1", 2, 8);
    DUE.fault("let x : N = x; 1", 2, 12);
    DUE.check("let x : N = 1; x", 0, -1, "N");
    DUE.fault("(let x : N = 1; x) x", 2, 19);
    DUE.fault("((\\x. x) : x -> N)", 2, 11);
    DUE.fault("((\\x. x) x : N)", 2, 9);
    DUE.sentence("A NAME is what the innermost \\ , let or binder around it says of it");
    DUE.normal("((\\x. \\x. x) : N -> N -> N) 1 2", 0, -1, "2");
    DUE.normal("let x : N = 1; ((\\x. x) : N -> N) 2", 0, -1, "2");
    DUE.normal("((\\x. let x : N = S x; x) : N -> N) 2", 0, -1, "3");
    DUE.check("(x : U0) -> (x : x) -> N", 0, -1, "U1");
    DUE.fault("(x : U0) -> (x : x) -> x", 3, 23);
  }
}
