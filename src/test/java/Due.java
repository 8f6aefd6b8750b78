/** Counts the answers of one test that are not as due, and prints them. */
final class Due {
  private final String test;
  private String sentence = "";
  private int asked = 0;
  private int wrong = 0;

  Due(String test) {
    this.test = test;
  }

  /** What comes now tests this sentence of the document. */
  void sentence(String words) {
    sentence = " [" + words + "]";
  }

  private void say(String what, String got, String want) {
    wrong++;
    System.out.println(test + sentence + ": " + what + " answered " + got + ", due is " + want);
  }

  void is(String what, long got, long want) {
    asked++;
    if (got != want) {
      say(what, "" + got, "" + want);
    }
  }

  void is(String what, boolean got, boolean want) {
    is(what, got ? 1 : 0, want ? 1 : 0);
  }

  void is(String what, String got, String want) {
    asked++;
    if (!got.equals(want)) {
      say(what, "\"" + got + "\"", "\"" + want + "\"");
    }
  }

  void end() {
    System.out.println(test + ": " + asked + " answers, " + wrong + " not as due");
    if (wrong != 0) {
      System.exit(1);
    }
  }

  boolean failed() {
    return wrong != 0;
  }

  /** A new object with this text. */
  static TermDesk desk(String text) {
    TermDesk desk = new TermDesk();
    put(desk, text);
    return desk;
  }

  static void put(TermDesk desk, String text) {
    for (int i = 0; i < text.length(); i += 8) {
      desk.write(chars(text.substring(i, Math.min(i + 8, text.length()))));
    }
  }

  static void replace(TermDesk desk, String text) {
    desk.erase();
    put(desk, text);
  }

  static long chars(String word) {
    long chars = 0;
    for (int i = 0; i < word.length(); i++) {
      chars |= (long) word.charAt(i) << (8 * i);
    }
    return chars;
  }

  static String told(TermDesk desk) {
    StringBuilder told = new StringBuilder();
    int length = desk.length();
    for (int i = 0; i < length; i++) {
      told.append((char) desk.at(i));
    }
    return told.toString();
  }

  /** Checks the text on a new object: the fault, and where, and (with no fault) the type told. */
  void check(String text, int fault, int place, String type) {
    TermDesk desk = desk(text);
    is("check of " + text, desk.check(20000), fault);
    is("place of " + text, desk.place(), place);
    is("type of " + text, told(desk), type);
  }

  /** The same for the value. */
  void normal(String text, int fault, int place, String value) {
    TermDesk desk = desk(text);
    is("normal of " + text, desk.normal(20000), fault);
    is("place of " + text, desk.place(), place);
    is("value of " + text, told(desk), value);
  }

  void fault(String text, int fault, int place) {
    check(text, fault, place, "");
    normal(text, fault, place, "");
  }
}
