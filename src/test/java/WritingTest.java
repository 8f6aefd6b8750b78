/** Promises 1 to 4: a new object, write, erase, levels. */
public final class WritingTest {
  private static final Due DUE = new Due("WritingTest");

  public static void main(String[] args) {
    newObject();
    writing();
    refusedCharacters();
    fullText();
    erasing();
    levels();
    DUE.end();
  }

  private static void newObject() {
    TermDesk desk = new TermDesk();
    DUE.is("place of a new object", desk.place(), -1);
    DUE.is("cost of a new object", desk.cost(), 0);
    DUE.is("length of a new object", desk.length(), 0);
    DUE.is("at(0) of a new object", desk.at(0), -1);
    DUE.is("number of a new object", desk.number(), -1);
    DUE.is("erase of a new object", desk.erase(), 0);
    DUE.is("check of an empty text", desk.check(9), 1);
    DUE.is("place in an empty text", desk.place(), 0);
    DUE.is("three levels: U1", check(new TermDesk(), "U1"), 0);
    DUE.is("three levels: U2", check(new TermDesk(), "U2"), 3);
  }

  private static int check(TermDesk desk, String text) {
    Due.replace(desk, text);
    return desk.check(100);
  }

  private static void writing() {
    TermDesk desk = new TermDesk();
    DUE.is("write of nothing", desk.write(0), 0);
    DUE.is("write of S", desk.write('S'), 1);
    DUE.is("write of a blank and 41", desk.write(Due.chars(" 41")), 3);
    DUE.is("normal", desk.normal(100), 0);
    DUE.is("number", desk.number(), 42);
    DUE.is("write of eight", desk.write(Due.chars("\n\n  \n  \n")), 8);
    DUE.is("blanks between tokens", desk.normal(100), 0);
    DUE.is("a 0 ends them, whatever is behind", desk.write(0x7FFF1F0000L), 0);
    DUE.is("a 0 ends one", desk.write(0xFF00000000000020L), 1);
    DUE.is("as many as were written", desk.erase(), 13);
    DUE.is("the least and the greatest", desk.write(Due.chars(" ~\n")), 3);
    DUE.is("no token begins at ~", desk.check(5), 1);
    DUE.is("there", desk.place(), 1);
  }

  private static void refusedCharacters() {
    TermDesk desk = Due.desk("N");
    int[] bad = {1, 9, 11, 13, 31, 127, 128, 200, 255};
    for (int code : bad) {
      DUE.is("write of " + code, desk.write(code), -1);
      DUE.is("write of " + code + " as the eighth", desk.write((long) code << 56 | Due.chars("       ")), -1);
    }
    DUE.is("write of -1", desk.write(-1), -1);
    DUE.is("nothing changed", desk.check(5), 0);
    DUE.is("one character", desk.erase(), 1);
  }

  private static void fullText() {
    TermDesk desk = new TermDesk();
    for (int i = 0; i < 99; i++) {
      desk.write(Due.chars("        "));
    }
    DUE.is("up to 799", desk.write(Due.chars("       ")), 7);
    DUE.is("over 800", desk.write(Due.chars("NN")), -1);
    DUE.is("to 800", desk.write('N'), 1);
    DUE.is("no more", desk.write('N'), -1);
    DUE.is("nothing is always taken", desk.write(0), 0);
    DUE.is("the last is looked at", desk.check(5), 0);
    DUE.is("no fuel", desk.check(0), 4);
    DUE.is("the last place", desk.place(), 799);
    DUE.is("erase", desk.erase(), 800);
  }

  private static void erasing() {
    TermDesk desk = Due.desk("S 4");
    desk.normal(50);
    DUE.is("erase", desk.erase(), 3);
    DUE.is("erase again", desk.erase(), 0);
    DUE.is("what was told stays", desk.number(), 5);
    DUE.is("its length too", desk.length(), 1);
    Due.put(desk, "7");
    DUE.is("check of the new text", desk.normal(50), 0);
    DUE.is("its number", desk.number(), 7);
  }

  private static void levels() {
    TermDesk desk = new TermDesk();
    int[] bad = {0, -1, 9, 100, Integer.MIN_VALUE, Integer.MAX_VALUE};
    for (int n : bad) {
      DUE.is("levels(" + n + ")", desk.levels(n), false);
    }
    DUE.is("still three: U1", check(desk, "U1"), 0);
    DUE.is("still three: U2", check(desk, "U2"), 3);
    for (int n = 1; n <= 8; n++) {
      DUE.is("levels(" + n + ")", desk.levels(n), true);
      DUE.is("the greatest that gives, of " + n, n == 1 ? 0 : check(desk, "U" + (n - 2)), 0);
      DUE.is("the next, of " + n, check(desk, "U" + (n - 1)), 3);
      DUE.is("U9, of " + n, check(desk, "U9"), 3);
      DUE.is("erase leaves the levels", check(desk, "N -> E"), 0);
    }
  }
}
