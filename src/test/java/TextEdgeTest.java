/** The edges of the text, of tokens, and of promises 1 to 4: a test for each sentence, on both of its sides. */
public final class TextEdgeTest {
  private static final Due DUE = new Due("TextEdgeTest");
  private static final String SIGNS = "\\.:=;,)*";

  public static void main(String[] args) {
    newObject();
    manyCalls();
    fullText();
    characters();
    order();
    erasing();
    levels();
    blanks();
    firstCharacters();
    nameCharacters();
    nameLengths();
    theWordLet();
    universes();
    numerals();
    signs();
    DUE.end();
  }

  private static void newObject() {
    DUE.sentence("An empty text, three levels, nothing looked at");
    DUE.is("erase", new TermDesk().erase(), 0);
    DUE.is("check", new TermDesk().check(20000), 1);
    DUE.is("normal", new TermDesk().normal(20000), 1);
    DUE.is("place", new TermDesk().place(), -1);
    DUE.is("cost", new TermDesk().cost(), 0);
    DUE.is("length", new TermDesk().length(), 0);
    DUE.is("at(0)", new TermDesk().at(0), -1);
    DUE.is("number", new TermDesk().number(), -1);
    DUE.check("U1", 0, -1, "U2");
    DUE.check("U2", 3, 0, "");
    TermDesk desk = new TermDesk();
    desk.check(0);
    DUE.is("the place of an empty text's fault", desk.place(), 0);
    DUE.is("two objects have two texts", Due.desk("N").erase() + new TermDesk().erase(), 1);
  }

  private static void manyCalls() {
    DUE.sentence("An object is used for at most 512 calls");
    TermDesk desk = new TermDesk();
    desk.write(Due.chars("S 41"));
    for (int i = 0; i < 255; i++) {
      DUE.is("normal " + i, desk.normal(4), 0);
      DUE.is("number " + i, desk.number(), 42);
    }
    DUE.is("the 512th call", desk.cost(), 4);
  }

  private static TermDesk filled(int size) {
    return Due.desk(" ".repeat(size));
  }

  private static void fullText() {
    DUE.sentence("-1 refused: the text would have more than 800");
    for (int size = 790; size <= 800; size++) {
      for (int n = 0; n <= 8; n++) {
        TermDesk desk = filled(size);
        boolean fits = size + n <= 800;
        DUE.is(n + " behind " + size, desk.write(Due.chars("NNNNNNNN".substring(0, n))), fits ? n : -1);
        DUE.is("erase after " + n + " behind " + size, desk.erase(), fits ? size + n : size);
      }
    }
    TermDesk full = filled(799);
    DUE.is("two", full.write(Due.chars("NN")), -1);
    DUE.is("nothing of them is there", full.check(9), 1);
    DUE.is("the end", full.place(), 799);
    DUE.is("one", full.write('N'), 1);
    DUE.is("the 800th counts", full.check(9), 0);
    DUE.is("a refused code in a full text", full.write(200), -1);
    DUE.is("800 were there", full.erase(), 800);
    DUE.is("room again", full.write(Due.chars("        ")), 8);
  }

  private static boolean isGood(int code) {
    return code == 10 || code >= 32 && code <= 126;
  }

  private static void characters() {
    DUE.sentence("a value of 0 ends them; -1 refused: one of them is not 10 or 32 .. 126");
    for (int i = 0; i < 8; i++) {
      for (int code = 0; code < 256; code++) {
        long chars = Due.chars("NNNNNNNN".substring(0, i)) | (long) code << (8 * i);
        String what = "code " + code + " behind " + i;
        int want = code == 0 ? i : isGood(code) ? i + 1 : -1;
        TermDesk desk = new TermDesk();
        DUE.is(what, desk.write(chars), want);
        DUE.is("erase after " + what, desk.erase(), Math.max(want, 0));
        long more = i < 7 ? chars | ~0L << (8 * i + 8) : chars;
        DUE.is(what + " before bad ones", desk.write(more), code == 0 ? i : i < 7 ? -1 : want);
        DUE.is("erase after both", desk.erase(), code == 0 ? i : i < 7 ? 0 : Math.max(want, 0));
      }
    }
    DUE.is("all bits", new TermDesk().write(-1), -1);
    DUE.is("the least", new TermDesk().write(Long.MIN_VALUE), 0);
    DUE.is("the greatest", new TermDesk().write(Long.MAX_VALUE), -1);
  }

  private static void order() {
    DUE.sentence("put behind the text, taken from the lowest 8 bits of chars on");
    TermDesk desk = new TermDesk();
    DUE.is("eight", desk.write(0x2034_3332_3120_2820L), 8);
    DUE.is("one behind them", desk.write(')'), 1);
    DUE.is("normal", desk.normal(9), 0);
    DUE.is("the number", desk.number(), 1234);
    DUE.is("what is behind a 0 is not kept", desk.write(0x3900L), 0);
    DUE.is("normal", desk.normal(9), 0);
    DUE.is("erase", desk.erase(), 9);
  }

  private static void erasing() {
    DUE.sentence("The text becomes empty: how many characters it had");
    for (int size : new int[] {0, 1, 8, 9, 799, 800}) {
      TermDesk desk = filled(size);
      DUE.is("erase of " + size, desk.erase(), size);
      DUE.is("erase again", desk.erase(), 0);
      DUE.is("an empty text", desk.check(9), 1);
      DUE.is("its end", desk.place(), 0);
      desk.write('N');
      DUE.is("nothing of the old text is back", desk.check(9), 0);
    }
  }

  private static void levels() {
    DUE.sentence("The number of universes becomes n: true; false if it is not 1 .. 8");
    for (int n = -20; n <= 300; n++) {
      DUE.is("levels(" + n + ")", new TermDesk().levels(n), n >= 1 && n <= 8);
    }
    int[] far = {Integer.MIN_VALUE, Integer.MIN_VALUE + 3, Integer.MAX_VALUE, 65539, -65533};
    for (int n : far) {
      DUE.is("levels(" + n + ")", new TermDesk().levels(n), false);
    }
    DUE.sentence("U i: U i + 1, if that is a universe");
    for (int n = 1; n <= 8; n++) {
      for (int i = 0; i <= 9; i++) {
        TermDesk desk = Due.desk(" U" + i);
        desk.levels(n);
        boolean given = i + 1 < n;
        DUE.is("U" + i + " of " + n, desk.check(9), given ? 0 : 3);
        DUE.is("its type", Due.told(desk), given ? "U" + (i + 1) : "");
        DUE.is("its place", desk.place(), given ? -1 : 1);
      }
    }
    TermDesk desk = Due.desk("U2");
    DUE.is("with three", desk.check(9), 3);
    DUE.is("four", desk.levels(4), true);
    DUE.is("the fault stays", desk.place(), 0);
    DUE.is("with four", desk.check(9), 0);
    DUE.is("one", desk.levels(1), true);
    DUE.is("what was told stays", Due.told(desk), "U3");
    DUE.is("with one", desk.check(9), 3);
    Due.replace(desk, "N");
    DUE.is("N with one", desk.check(9), 0);
  }

  private static void blanks() {
    DUE.sentence("blank and 10 stand between tokens where wanted");
    DUE.check("((\\x.S x):N->N)1", 0, -1, "N");
    DUE.check(" \n( ( \\\nx .\n S x)\n: N\n->  N ) 1\n ", 0, -1, "N");
    DUE.check("N\n", 0, -1, "U0");
    DUE.check("\nN", 0, -1, "U0");
    DUE.fault("\n", 1, 1);
    DUE.fault(" ", 1, 1);
    DUE.fault(" ".repeat(800), 1, 800);
    DUE.fault("l et x : N = 1; x", 1, 7);
    DUE.fault("U\n0", 1, 0);
    DUE.fault("N -\n> N", 1, 2);
    DUE.fault("((1,2):N*N).\n1", 1, 11);
  }

  private static void firstCharacters() {
    DUE.sentence("FAULT 1: .. or where no token begins; the text's length for its end");
    for (int code = 32; code <= 126; code++) {
      String text = "" + (char) code;
      if (code >= 'a' && code <= 'z') {
        DUE.fault(text, 2, 0);
      } else if (code >= '0' && code <= '9') {
        DUE.check(text, 0, -1, "N");
      } else if (code == 'N' || code == 'E') {
        DUE.check(text, 0, -1, "U0");
      } else {
        boolean begun = " \\(SRX".indexOf(code) >= 0;
        DUE.fault(text, 1, begun ? 1 : 0);
      }
    }
    // Where a token begins, the 301st node ends before the grammar is asked; where none begins, it does not.
    String full = "(" + Texts.nodes(299) + ",S 1";
    for (int code = 33; code <= 126; code++) {
      boolean token = SIGNS.indexOf(code) >= 0 || "SRX".indexOf(code) >= 0;
      boolean part = Character.isLowerCase(code) || Character.isDigit(code) || "NE(".indexOf(code) >= 0;
      if (!part) {
        DUE.check(full + " " + (char) code, 1, token ? full.length() - 3 : full.length() + 1, "");
      }
    }
  }

  private static void nameCharacters() {
    DUE.sentence("a NAME (a letter a .. z, then letters, digits and _");
    for (int code = 33; code <= 126; code++) {
      String name = "a" + (char) code;
      if (Character.isLetterOrDigit(code) || code == '_') {
        DUE.check("((\\" + name + "." + name + "):N->N)", 0, -1, "(x0:N)->N");
        DUE.fault("((\\" + name + ".a):N->N)", 2, 6);
      } else if (code != '.') {
        DUE.fault("((\\" + name + " . 0):N->N)", 1, 4);
      }
    }
    DUE.check("((\\a.a):N->N)", 0, -1, "(x0:N)->N");
    DUE.check("((\\z.z):N->N)", 0, -1, "(x0:N)->N");
    DUE.fault("((\\`.0):N->N)", 1, 3);
    DUE.fault("((\\{.0):N->N)", 1, 3);
    DUE.fault("((\\_.0):N->N)", 1, 3);
    DUE.fault("((\\1.0):N->N)", 1, 3);
    DUE.fault("((\\A.0):N->N)", 1, 3);
  }

  private static void nameLengths() {
    DUE.sentence("a NAME (.. at most 8) (the longest that fits)");
    String letters = "abcdefghijklmnopqrstuvwxyz";
    for (int n = 1; n <= 8; n++) {
      String name = letters.substring(0, n);
      DUE.check("((\\" + name + "." + name + "):N->N)", 0, -1, "(x0:N)->N");
    }
    DUE.fault("((\\abcdefghi.0):N->N)", 1, 11);
    DUE.fault("\\abcdefgh.abcdefghi", 2, 18);
    DUE.fault("\\abcdefgh.abcdefgi", 2, 10);
    DUE.fault("\\abcdefg.abcdefgh", 2, 9);
    DUE.fault("\\a1_____9.a1_____8", 2, 10);
    DUE.check("((\\abcdefgh.abcdefgh(1)):(N->N)->N)", 0, -1, "(x0:(x0:N)->N)->N");
    DUE.check("((\\abcdefgh.\\ijklmnop.abcdefghijklmnop):(N->N)->N->N)", 0, -1, "(x0:(x0:N)->N)->(x1:N)->N");
  }

  private static void theWordLet() {
    DUE.sentence("a NAME .. but let");
    DUE.fault("\\let.0", 1, 1);
    DUE.fault("(let:N)", 1, 4);
    DUE.fault("let let:N=1;1", 1, 4);
    DUE.fault("N let", 1, 2);
    String[] near = {"le", "lets", "let_", "let1", "letN", "leT", "et", "llet", "lettttt"};
    for (String name : near) {
      DUE.check("((\\" + name + "." + name + "):N->N)", 0, -1, "(x0:N)->N");
    }
    DUE.check("let x:N=1;x", 0, -1, "N");
    DUE.check("let\nx:N=1;x", 0, -1, "N");
    DUE.fault("letx:N=1;x", 1, 4);
  }

  private static void universes() {
    DUE.sentence("U and one digit at once behind it; N E S R X, each alone");
    TermDesk desk = new TermDesk();
    desk.levels(8);
    for (int i = 0; i <= 9; i++) {
      Due.replace(desk, "U" + i);
      DUE.is("U" + i, desk.check(9), i < 7 ? 0 : 3);
    }
    DUE.fault("U", 1, 0);
    DUE.fault("U/", 1, 0);
    DUE.fault("U:", 1, 0);
    DUE.fault("UN", 1, 0);
    DUE.fault("N -> U", 1, 5);
    DUE.fault("U00", 3, 0);
    DUE.fault("NN", 3, 0);
    DUE.fault("N1", 3, 0);
    DUE.fault("Nx", 2, 1);
    DUE.normal("S1", 0, -1, "2");
    DUE.normal("S(S0)", 0, -1, "2");
    DUE.fault("SS0", 1, 1);
    DUE.check("E->N*E", 0, -1, "U0");
    DUE.check("((\\e.XNe):E->N)", 0, -1, "(x0:E)->N");
    DUE.normal("R((\\k.N):N->U0)1(\\k.\\r.S r)2", 0, -1, "3");
  }

  private static void numerals() {
    DUE.sentence("a NUMERAL, one to four digits");
    String[] numerals = {"0", "9", "00", "10", "99", "007", "100", "999", "0000", "0001", "1000", "9999"};
    for (String n : numerals) {
      DUE.normal(n, 0, -1, "" + Integer.parseInt(n));
    }
    // Five digits are two numerals: one used on another.
    DUE.fault("00000", 3, 0);
    DUE.fault(" 12345", 3, 1);
    DUE.fault("S 99999", 3, 0);
    DUE.fault("((\\x.x):N->N)12345678", 3, 0);
    DUE.normal("((\\x.\\y.y):N->N->N)12345678", 0, -1, "5678");
    DUE.normal("((\\x.\\y.x):N->N->N)12345", 0, -1, "1234");
  }

  private static void signs() {
    DUE.sentence("the signs \\ . : = ; , ( ) * -> .1 .2 (the longest that fits)");
    DUE.normal("((3,4):N*N).1", 0, -1, "3");
    DUE.normal("((3,4):N*N).2", 0, -1, "4");
    DUE.fault("((3,4):N*N).0", 1, 11);
    DUE.fault("((3,4):N*N).3", 1, 11);
    DUE.fault("((3,4):N*N).", 1, 11);
    DUE.fault("((\\x.1):N->N)", 1, 4);
    DUE.fault("((\\x.2):N->N)", 1, 4);
    DUE.normal("((\\x.3):N->N)", 0, -1, "\\x0.3");
    DUE.normal("((\\x. 1):N->N)", 0, -1, "\\x0.1");
    DUE.normal("(((1,(2,3)):N*(N*N)).2.1)", 0, -1, "2");
    // .1 and then the numeral 2 that the number 1 is used on.
    DUE.fault("((1,2):N*N).12", 3, 0);
    DUE.fault("N-", 1, 1);
    DUE.fault("N>", 1, 1);
    DUE.fault("N-N", 1, 1);
    DUE.fault("N->>N", 1, 3);
    DUE.fault("N-->N", 1, 1);
  }
}
