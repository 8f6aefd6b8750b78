import java.util.Arrays;

/**
 * A checker for a small language in which types may depend on values.
 *
 * One looking goes: Reader (text to Terms), Checker (types, with Machine for values and Likeness for
 * THE SAME), Teller (normal form to text). Nothing is thrown: the first fault is kept in the Meter, and
 * every part stops when it is there. Terms and values are rows of numbers that each looking uses again.
 */
public final class TermDesk {
  private static final int NONE = -1;
  private static final int MOST_CHARS = 800;
  private static final int MOST_FUEL = 20000;
  private static final int MOST_LEVELS = 8;

  private static final int BAD_TEXT = 1;
  private static final int BAD_NAME = 2;
  private static final int BAD_TYPE = 3;
  private static final int NO_FUEL = 4;
  private static final int BIG_NUMBER = 5;
  private static final int TOO_DEEP = 6;
  private static final int LONG_TEXT = 7;

  private final char[] text = new char[MOST_CHARS];
  private int size = 0;
  private int numberTold = NONE;
  private final Meter meter;
  private final Terms terms;
  private final Heap heap;
  private final Machine machine;
  private final Reader reader;
  private final Checker checker;
  private final Teller teller;

  public TermDesk() {
    meter = new Meter();
    terms = new Terms(meter);
    heap = new Heap(meter);
    machine = new Machine(meter, terms, heap);
    reader = new Reader(meter, terms);
    checker = new Checker(meter, terms, heap, machine);
    teller = new Teller(meter, heap, machine);
  }

  public int write(long chars) {
    int count = 0;
    for (int i = 0; i < 8; i++) {
      int code = byteOf(chars, i);
      if (code == 0) {
        break;
      }
      if (code != '\n' && (code < ' ' || code > '~')) {
        return -1;
      }
      count++;
    }
    if (count > MOST_CHARS - size) {
      return -1;
    }
    for (int i = 0; i < count; i++) {
      text[size + i] = (char) byteOf(chars, i);
    }
    size += count;
    return count;
  }

  public int erase() {
    int had = size;
    size = 0;
    return had;
  }

  public boolean levels(int n) {
    if (n < 1 || n > MOST_LEVELS) {
      return false;
    }
    checker.universes = n;
    return true;
  }

  public int check(int fuel) {
    return look(fuel, true);
  }

  public int normal(int fuel) {
    return look(fuel, false);
  }

  public int place() {
    return meter.faultPlace;
  }

  public int cost() {
    return meter.spent;
  }

  public int length() {
    return teller.size;
  }

  public int at(int i) {
    return i >= 0 && i < teller.size ? teller.told[i] : NONE;
  }

  public int number() {
    return numberTold;
  }

  private static int byteOf(long chars, int i) {
    return (int) ((chars >>> (8 * i)) & 255);
  }

  private int look(int fuel, boolean typeWanted) {
    if (fuel < 0 || fuel > MOST_FUEL) {
      return -1;
    }
    numberTold = NONE;
    teller.size = 0;
    if (!meter.begin(fuel)) {
      return meter.fault;
    }
    int whole = reader.read(text, size);
    if (meter.fine()) {
      heap.clear();
      int type = checker.gives(whole, NONE, 0);
      meter.focus = terms.first(whole);
      int value = typeWanted ? type : machine.workOut(whole, NONE);
      teller.tell(value, 0, 1);
      numberTold = heap.plainCount(value);
    }
    if (!meter.fine()) {
      numberTold = NONE;
      teller.size = 0;
    }
    return meter.fault;
  }

  /** What a looking costs, where it is, and its first fault. */
  private static final class Meter {
    static final int MOST_LOOKINGS = 256;
    static final int MOST_IN_ALL = 150000;

    int fault = 0;
    int faultPlace = NONE;
    int focus = 0;
    int spent = 0;
    private int fuel = 0;
    private int spentInAll = 0;
    private int lookings = 0;

    boolean begin(int newFuel) {
      fault = 0;
      faultPlace = NONE;
      focus = 0;
      spent = 0;
      fuel = newFuel;
      if (lookings >= MOST_LOOKINGS) {
        return failAt(NO_FUEL, 0);
      }
      lookings++;
      return true;
    }

    boolean fine() {
      return fault == 0;
    }

    /** Keeps the first fault alone, so that what still runs behind it cannot change the answer. */
    boolean failAt(int newFault, int where) {
      if (fault == 0) {
        fault = newFault;
        faultPlace = where;
      }
      return false;
    }

    boolean spend() {
      if (fault != 0) {
        return false;
      }
      if (spent >= fuel || spentInAll >= MOST_IN_ALL) {
        return failAt(NO_FUEL, focus);
      }
      spent++;
      spentInAll++;
      return true;
    }
  }

  /** The nodes of the text's term. The parts that are worked out with a node stand before its others. */
  private static final class Terms {
    static final int NAME = 0;
    static final int UNIVERSE = 1;
    static final int NUMBERS = 2;
    static final int EMPTY = 3;
    static final int NUMERAL = 4;
    static final int SUCCESSOR = 5;
    static final int RECURSOR = 6;
    static final int ABSURD = 7;
    static final int USE = 8;
    static final int PAIR = 9;
    static final int FIRST = 10;
    static final int SECOND = 11;
    static final int FUNCTION = 12;
    static final int FUNCTIONS = 13;
    static final int PAIRS = 14;
    static final int ANNOTATED = 15;
    static final int LET = 16;

    private static final int MOST_NODES = 300;
    private static final int MOST_HEIGHT = 30;
    private static final int PARTS = 4;
    private static final int[] WORKED_OUT = {0, 0, 0, 0, 0, 1, 4, 2, 2, 2, 1, 1, 0, 1, 1, 1, 1};

    private final Meter meter;
    private final int[] kinds = new int[MOST_NODES];
    private final int[] firsts = new int[MOST_NODES];
    private final int[] details = new int[MOST_NODES];
    private final int[] heights = new int[MOST_NODES];
    private final int[] parts = new int[MOST_NODES * PARTS];
    private int count = 0;

    Terms(Meter meter) {
      this.meter = meter;
    }

    void clear() {
      count = 0;
    }

    int make(int kind, int first, int detail) {
      return make(kind, first, detail, NONE, NONE, NONE, NONE);
    }

    int make(int kind, int first, int detail, int p0, int p1, int p2, int p3) {
      int height = 1 + Math.max(Math.max(height(p0), height(p1)), Math.max(height(p2), height(p3)));
      if (count >= MOST_NODES || height > MOST_HEIGHT) {
        meter.failAt(BAD_TEXT, first);
      }
      if (!meter.fine()) {
        return NONE;
      }
      int node = count++;
      kinds[node] = kind;
      firsts[node] = first;
      details[node] = detail;
      heights[node] = height;
      parts[node * PARTS] = p0;
      parts[node * PARTS + 1] = p1;
      parts[node * PARTS + 2] = p2;
      parts[node * PARTS + 3] = p3;
      return node;
    }

    private boolean known(int node) {
      return node >= 0 && node < count;
    }

    private int height(int node) {
      return node >= 0 && node < count ? heights[node] : 0;
    }

    int kind(int node) {
      return known(node) ? kinds[node] : NONE;
    }

    int first(int node) {
      return known(node) ? firsts[node] : 0;
    }

    int detail(int node) {
      return known(node) ? details[node] : 0;
    }

    int part(int node, int i) {
      return known(node) && i >= 0 && i < PARTS ? parts[node * PARTS + i] : NONE;
    }

    int workedOut(int node) {
      int kind = kind(node);
      return kind >= 0 && kind < WORKED_OUT.length ? WORKED_OUT[kind] : 0;
    }
  }

  /** Cuts the text into a row of tokens; a token's kind is its sign or letter, or one of the constants. */
  private static final class Tokens {
    static final int BAD = -1;
    static final int END = 0;
    static final int NAME = 'a';
    static final int LET = 'l';
    static final int NUMERAL = '0';
    static final int ARROW = '>';
    static final int FIRST = '1';
    static final int SECOND = '2';

    private static final int MOST_IN_NAME = 8;
    private static final int MOST_DIGITS = 4;
    private static final int MOST_TOKENS = MOST_CHARS + 1;

    private final Meter meter;
    private char[] text = new char[0];
    private int size = 0;
    private final int[] kinds = new int[MOST_TOKENS];
    private final int[] starts = new int[MOST_TOKENS];
    private final int[] ends = new int[MOST_TOKENS];
    private int count = 0;
    private int now = 0;

    Tokens(Meter meter) {
      this.meter = meter;
    }

    /** The last token is the text's end, or what is no token. */
    void cut(char[] newText, int newSize) {
      text = newText;
      size = Math.min(newSize, newText.length);
      count = 0;
      now = 0;
      int from = 0;
      int kind = NAME;
      while (count < MOST_TOKENS && kind != END && kind != BAD) {
        while (from < size && (charAt(from) == ' ' || charAt(from) == '\n')) {
          from++;
        }
        kind = from < size ? kindAt(from) : END;
        kinds[count] = kind;
        starts[count] = from;
        from = endOf(kind, from);
        ends[count] = from;
        count++;
      }
      meet(0);
    }

    /** What is no token is a fault when the reading comes to it, not before. */
    private void meet(int i) {
      if (i < count && kinds[i] == BAD) {
        meter.failAt(BAD_TEXT, starts[i]);
      }
    }

    void advance() {
      if (now < count - 1) {
        now++;
      }
      meet(now);
    }

    boolean colonFollows() {
      meet(now + 1);
      return now + 1 < count && kinds[now + 1] == ':';
    }

    int kind() {
      return now < count ? kinds[now] : END;
    }

    int start() {
      return now < count ? starts[now] : 0;
    }

    int end() {
      return now < count ? ends[now] : 0;
    }

    private int kindAt(int i) {
      int c = charAt(i);
      int behind = charAt(i + 1);
      switch (c) {
        case 'U':
          return isDigit(behind) ? c : BAD;
        case '-':
          return behind == '>' ? ARROW : BAD;
        case '.':
          return behind == '1' || behind == '2' ? behind : c;
        case 'N': case 'E': case 'S': case 'R': case 'X':
        case '\\': case ':': case '=': case ';': case ',': case '(': case ')': case '*':
          return c;
        default:
          if (isSmall(c)) {
            return isLet(i, wordEnd(i)) ? LET : NAME;
          }
          return isDigit(c) ? NUMERAL : BAD;
      }
    }

    private int endOf(int kind, int start) {
      switch (kind) {
        case END:
        case BAD:
          return start;
        case NAME:
        case LET:
          return wordEnd(start);
        case NUMERAL:
          return digitsEnd(start);
        case 'U':
        case ARROW:
        case FIRST:
        case SECOND:
          return start + 2;
        default:
          return start + 1;
      }
    }

    private int wordEnd(int from) {
      int i = from;
      while (i < from + MOST_IN_NAME && isInName(charAt(i))) {
        i++;
      }
      return i;
    }

    private int digitsEnd(int from) {
      int i = from;
      while (i < from + MOST_DIGITS && isDigit(charAt(i))) {
        i++;
      }
      return i;
    }

    private boolean isLet(int from, int to) {
      return to - from == 3 && charAt(from) == 'l' && charAt(from + 1) == 'e' && charAt(from + 2) == 't';
    }

    int charAt(int i) {
      return i >= 0 && i < size ? text[i] : 0;
    }

    int numeral() {
      int n = 0;
      for (int i = start(); i < end(); i++) {
        n = n * 10 + charAt(i) - '0';
      }
      return n;
    }

    private static boolean isSmall(int c) {
      return c >= 'a' && c <= 'z';
    }

    private static boolean isDigit(int c) {
      return c >= '0' && c <= '9';
    }

    private static boolean isInName(int c) {
      return isSmall(c) || c >= 'A' && c <= 'Z' || isDigit(c) || c == '_';
    }
  }

  /** Reads the tokens as one term; names become the number of binders between them and their own. */
  private static final class Reader {
    private static final int MOST_OPEN = 30;

    private final Meter meter;
    private final Terms terms;
    private final Tokens tokens;
    private final int[] scopeStarts = new int[MOST_OPEN];
    private final int[] scopeEnds = new int[MOST_OPEN];
    private int scope = 0;
    private int open = 0;
    private int unknownName = NONE;

    Reader(Meter meter, Terms terms) {
      this.meter = meter;
      this.terms = terms;
      this.tokens = new Tokens(meter);
    }

    int read(char[] text, int size) {
      terms.clear();
      scope = 0;
      open = 0;
      unknownName = NONE;
      tokens.cut(text, size);
      int whole = term();
      if (tokens.kind() != Tokens.END) {
        refuse();
      }
      if (unknownName != NONE) {
        meter.failAt(BAD_NAME, unknownName);
      }
      return whole;
    }

    private int refuse() {
      meter.failAt(BAD_TEXT, tokens.start());
      return NONE;
    }

    private boolean take(int kind) {
      if (tokens.kind() != kind) {
        refuse();
      } else if (meter.fine()) {
        tokens.advance();
      }
      return meter.fine();
    }

    private int term() {
      if (open >= MOST_OPEN || !meter.fine()) {
        return refuse();
      }
      open++;
      int made;
      if (tokens.kind() == '\\') {
        made = function();
      } else if (tokens.kind() == Tokens.LET) {
        made = let();
      } else {
        made = part();
        if (made != NONE && (tokens.kind() == Tokens.ARROW || tokens.kind() == '*')) {
          made = plainType(made);
        }
      }
      open--;
      return made;
    }

    private int function() {
      int first = tokens.start();
      tokens.advance();
      int start = tokens.start();
      int end = tokens.end();
      if (!take(Tokens.NAME) || !take('.')) {
        return NONE;
      }
      enter(start, end);
      int body = term();
      leave();
      return terms.make(Terms.FUNCTION, first, 0, body, NONE, NONE, NONE);
    }

    private int let() {
      int first = tokens.start();
      tokens.advance();
      int start = tokens.start();
      int end = tokens.end();
      if (!take(Tokens.NAME) || !take(':')) {
        return NONE;
      }
      int type = term();
      if (!take('=')) {
        return NONE;
      }
      int meant = term();
      if (!take(';')) {
        return NONE;
      }
      enter(start, end);
      int body = term();
      leave();
      return terms.make(Terms.LET, first, 0, meant, type, body, NONE);
    }

    private int plainType(int domain) {
      int kind = tokens.kind() == '*' ? Terms.PAIRS : Terms.FUNCTIONS;
      tokens.advance();
      int range = term();
      return terms.make(kind, terms.first(domain), Heap.PLAIN, domain, range, NONE, NONE);
    }

    private int part() {
      int made = head();
      for (int i = 0; i < MOST_CHARS && made != NONE && beginsAtom(); i++) {
        int argument = atom(false);
        made = terms.make(Terms.USE, terms.first(made), 0, made, argument, NONE, NONE);
      }
      return made;
    }

    private boolean beginsAtom() {
      int kind = tokens.kind();
      return kind == Tokens.NAME || kind == Tokens.NUMERAL || kind == 'U' || kind == 'N' || kind == 'E'
          || kind == '(';
    }

    private int head() {
      int first = tokens.start();
      int kind = tokens.kind();
      if (kind != 'S' && kind != 'R' && kind != 'X') {
        return atom(true);
      }
      tokens.advance();
      int p0 = atom(false);
      if (kind == 'S') {
        return terms.make(Terms.SUCCESSOR, first, 0, p0, NONE, NONE, NONE);
      }
      int p1 = atom(false);
      if (kind == 'X') {
        return terms.make(Terms.ABSURD, first, 0, p0, p1, NONE, NONE);
      }
      int p2 = atom(false);
      int p3 = atom(false);
      return terms.make(Terms.RECURSOR, first, 0, p0, p1, p2, p3);
    }

    private int atom(boolean beginsTerm) {
      if (!meter.fine() || !beginsAtom()) {
        return refuse();
      }
      int made = tokens.kind() == '(' ? bracket(beginsTerm) : word();
      for (int i = 0; i < MOST_CHARS && made != NONE; i++) {
        if (tokens.kind() != Tokens.FIRST && tokens.kind() != Tokens.SECOND) {
          break;
        }
        int kind = tokens.kind() == Tokens.FIRST ? Terms.FIRST : Terms.SECOND;
        tokens.advance();
        made = terms.make(kind, terms.first(made), 0, made, NONE, NONE, NONE);
      }
      return made;
    }

    private int word() {
      int kind = tokens.kind();
      int start = tokens.start();
      int end = tokens.end();
      int value = kind == Tokens.NUMERAL ? tokens.numeral() : 0;
      tokens.advance();
      switch (kind) {
        case 'U':
          return terms.make(Terms.UNIVERSE, start, tokens.charAt(start + 1) - '0');
        case 'N':
          return terms.make(Terms.NUMBERS, start, 0);
        case 'E':
          return terms.make(Terms.EMPTY, start, 0);
        case Tokens.NUMERAL:
          return terms.make(Terms.NUMERAL, start, value);
        default:
          return name(start, end);
      }
    }

    private int bracket(boolean beginsTerm) {
      int first = tokens.start();
      tokens.advance();
      if (tokens.kind() == Tokens.NAME && tokens.colonFollows()) {
        return named(first, beginsTerm);
      }
      int made = term();
      int kind = tokens.kind();
      if (kind == ')') {
        return take(')') ? made : NONE;
      }
      if (kind != ',' && kind != ':') {
        return refuse();
      }
      take(kind);
      int other = term();
      take(')');
      return terms.make(kind == ',' ? Terms.PAIR : Terms.ANNOTATED, first, 0, made, other, NONE, NONE);
    }

    private int named(int first, boolean beginsTerm) {
      int start = tokens.start();
      int end = tokens.end();
      tokens.advance();
      tokens.advance();
      int type = term();
      if (!take(')')) {
        return NONE;
      }
      if (tokens.kind() != Tokens.ARROW && tokens.kind() != '*') {
        int name = name(start, end);
        return terms.make(Terms.ANNOTATED, first, 0, name, type, NONE, NONE);
      }
      if (!beginsTerm) {
        return refuse();
      }
      int kind = tokens.kind() == '*' ? Terms.PAIRS : Terms.FUNCTIONS;
      tokens.advance();
      enter(start, end);
      int range = term();
      leave();
      return terms.make(kind, first, Heap.BINDS, type, range, NONE, NONE);
    }

    private void enter(int start, int end) {
      if (scope < MOST_OPEN) {
        scopeStarts[scope] = start;
        scopeEnds[scope] = end;
      }
      scope++;
    }

    private void leave() {
      scope--;
    }

    private int name(int start, int end) {
      for (int i = Math.min(scope, MOST_OPEN) - 1; i >= 0; i--) {
        if (sameName(start, end, scopeStarts[i], scopeEnds[i])) {
          return terms.make(Terms.NAME, start, scope - 1 - i);
        }
      }
      // The NAME of (NAME : term) is made behind names that stand behind it.
      unknownName = unknownName == NONE ? start : Math.min(unknownName, start);
      return terms.make(Terms.NAME, start, 0);
    }

    private boolean sameName(int start, int end, int otherStart, int otherEnd) {
      if (end - start != otherEnd - otherStart) {
        return false;
      }
      for (int i = 0; i < end - start; i++) {
        if (tokens.charAt(start + i) != tokens.charAt(otherStart + i)) {
          return false;
        }
      }
      return true;
    }
  }

  /** The values of one looking, and the names bound to values and types, as cells with four fields. */
  private static final class Heap {
    static final int UNIVERSE = 1;
    static final int NUMBERS = 2;
    static final int EMPTY = 3;
    /** Types: the value of A, then a closure. */
    static final int FUNCTIONS = 4;
    static final int PAIRS = 5;
    /** Nothing, then a closure. */
    static final int FUNCTION = 6;
    static final int PAIR = 7;
    /** The count, and the stuck value below it or NONE. */
    static final int COUNT = 8;
    static final int VARIABLE = 9;
    static final int USED = 10;
    static final int FIRST = 11;
    static final int SECOND = 12;
    static final int RECURSION = 13;
    static final int ABSURD = 14;
    /** A bound name: its value, its type, the names outside. */
    static final int BOUND = 15;

    /** Closures: a term and its names, with or without a name of its own. */
    static final int PLAIN = 0;
    static final int BINDS = 1;
    /** Closures of the type of R's s: M, and for the inner one the number that M is used behind. */
    static final int STEP = 2;
    static final int STEP_RANGE = 3;

    private static final int MOST_COUNT = 9999;
    private static final int FEW_CELLS = 512;
    /** A cost of 1 makes at most two cells, and a node that is looked at a few more. */
    private static final int MOST_CELLS = 48000;

    private final Meter meter;
    private int[] kinds = new int[FEW_CELLS];
    private int[] as = new int[FEW_CELLS];
    private int[] bs = new int[FEW_CELLS];
    private int[] cs = new int[FEW_CELLS];
    private int[] ds = new int[FEW_CELLS];
    private int count = 0;

    Heap(Meter meter) {
      this.meter = meter;
    }

    void clear() {
      count = 0;
    }

    int make(int kind, int a, int b, int c, int d) {
      if (count >= MOST_CELLS) {
        meter.failAt(NO_FUEL, meter.focus);
        return NONE;
      }
      if (count >= kinds.length) {
        int room = Math.min(kinds.length * 4, MOST_CELLS);
        kinds = Arrays.copyOf(kinds, room);
        as = Arrays.copyOf(as, room);
        bs = Arrays.copyOf(bs, room);
        cs = Arrays.copyOf(cs, room);
        ds = Arrays.copyOf(ds, room);
      }
      int cell = count++;
      kinds[cell] = kind;
      as[cell] = a;
      bs[cell] = b;
      cs[cell] = c;
      ds[cell] = d;
      return cell;
    }

    int make(int kind, int a, int b) {
      return make(kind, a, b, NONE, NONE);
    }

    private boolean known(int cell) {
      return cell >= 0 && cell < count;
    }

    int kind(int cell) {
      return cell >= 0 && cell < count ? kinds[cell] : NONE;
    }

    int a(int cell) {
      return known(cell) ? as[cell] : NONE;
    }

    int b(int cell) {
      return known(cell) ? bs[cell] : NONE;
    }

    int c(int cell) {
      return known(cell) ? cs[cell] : NONE;
    }

    int d(int cell) {
      return known(cell) ? ds[cell] : NONE;
    }

    boolean isStuck(int value) {
      int kind = kind(value);
      return kind >= VARIABLE && kind <= ABSURD;
    }

    boolean isClosure(int value) {
      int kind = kind(value);
      return kind == FUNCTION || kind == FUNCTIONS || kind == PAIRS;
    }

    /** Right types rule such a value out; the fault keeps the answer an answer all the same. */
    int impossible() {
      meter.failAt(BAD_TYPE, meter.focus);
      return NONE;
    }

    int bind(int names, int value, int type) {
      return make(BOUND, value, type, names, NONE);
    }

    int bound(int names, int steps) {
      int cell = names;
      for (int i = 0; i < steps; i++) {
        cell = c(cell);
      }
      return cell;
    }

    int successor(int value) {
      if (isStuck(value)) {
        return make(COUNT, 1, value, NONE, NONE);
      }
      if (kind(value) != COUNT) {
        return impossible();
      }
      if (a(value) >= MOST_COUNT) {
        meter.failAt(BIG_NUMBER, meter.focus);
        return NONE;
      }
      return make(COUNT, a(value) + 1, b(value), NONE, NONE);
    }

    /** What stands on the ground of a number with a count below its own. */
    int below(int number, int steps) {
      int ground = b(number);
      return steps == 0 && ground != NONE ? ground : make(COUNT, steps, ground, NONE, NONE);
    }

    int half(int value, boolean second) {
      if (kind(value) == PAIR) {
        return second ? b(value) : a(value);
      }
      return isStuck(value) ? make(second ? SECOND : FIRST, value, NONE, NONE, NONE) : impossible();
    }

    int plainCount(int value) {
      return kind(value) == COUNT && b(value) == NONE ? a(value) : NONE;
    }
  }

  /**
   * Works terms out. Uses may lie 25 deep in one another, with terms 30 high in each: too deep for calls
   * of methods, so what is still to do stands in frames. A value that is found goes to the frame below.
   */
  private static final class Machine {
    private static final int MOST_USES = 25;
    private static final int MOST_STEPS = 1000000;
    private static final int FEW_FRAMES = 64;
    private static final int MOST_FRAMES = 1024;

    /** What a frame does when it is on top. */
    private static final int BEGIN_NODE = 0;
    private static final int WORK_PARTS = 1;
    private static final int END_NODE = 2;
    private static final int BEGIN_USE = 3;
    private static final int END_USE = 4;
    private static final int END_STEP = 5;
    private static final int BEGIN_REPEAT = 6;
    private static final int REPEAT = 7;
    private static final int ENTER = 8;

    /** The fields of a frame: what it does, two things it does it with, the values found so far. */
    private static final int FIELDS = 8;
    private static final int DEED = 0;
    private static final int X = 1;
    private static final int Y = 2;
    private static final int FOUND = 3;
    private static final int VALUES = 4;
    private static final int MOST_FOUND = 4;

    private final Meter meter;
    private final Terms terms;
    private final Heap heap;
    private int[] frames = new int[FEW_FRAMES * FIELDS];
    private int depth = 0;
    private int uses = 0;
    private int result = NONE;

    Machine(Meter meter, Terms terms, Heap heap) {
      this.meter = meter;
      this.terms = terms;
      this.heap = heap;
    }

    int workOut(int node, int names) {
      return run(BEGIN_NODE, node, names);
    }

    int use(int function, int argument) {
      return run(BEGIN_USE, function, argument);
    }

    private int run(int deed, int x, int y) {
      depth = 0;
      uses = 0;
      result = NONE;
      push(deed, x, y);
      for (int i = 0; i < MOST_STEPS && depth > 0 && meter.fine(); i++) {
        switch (get(DEED)) {
          case BEGIN_NODE:
            beginNode(get(X), get(Y));
            break;
          case WORK_PARTS:
            workParts(get(X), get(Y));
            break;
          case END_NODE:
            endNode(get(X), get(Y));
            break;
          case BEGIN_USE:
            beginUse(get(X), get(Y));
            break;
          case ENTER:
            enter(get(X), get(Y));
            break;
          case END_USE:
            uses--;
            deliver(get(VALUES));
            break;
          case END_STEP:
            deliver(heap.make(Heap.FUNCTIONS, get(VALUES), get(X), get(Y), Heap.STEP_RANGE));
            break;
          case BEGIN_REPEAT:
            beginRepeat(get(VALUES), get(VALUES + 1), get(VALUES + 2), get(VALUES + 3));
            break;
          default:
            repeat(get(X));
            break;
        }
      }
      if (depth > 0) {
        meter.failAt(NO_FUEL, meter.focus);
      }
      return meter.fine() ? result : NONE;
    }

    private void push(int deed, int x, int y) {
      if (depth >= MOST_FRAMES) {
        meter.failAt(TOO_DEEP, meter.focus);
        return;
      }
      if ((depth + 1) * FIELDS > frames.length) {
        frames = Arrays.copyOf(frames, Math.min(frames.length * 4, MOST_FRAMES * FIELDS));
      }
      depth++;
      set(DEED, deed);
      set(X, x);
      set(Y, y);
      set(FOUND, 0);
    }

    private int get(int field) {
      int i = (depth - 1) * FIELDS + field;
      return i >= 0 && i < frames.length ? frames[i] : NONE;
    }

    private void set(int field, int value) {
      int i = (depth - 1) * FIELDS + field;
      if (i >= 0 && i < frames.length) {
        frames[i] = value;
      }
    }

    /** Ends the frame on top; its value goes to the one below. */
    private void deliver(int value) {
      depth--;
      int found = get(FOUND);
      if (depth == 0) {
        result = value;
      } else if (found >= 0 && found < MOST_FOUND) {
        set(VALUES + found, value);
        set(FOUND, found + 1);
      }
    }

    private void beginNode(int node, int names) {
      if (!meter.spend()) {
        return;
      }
      int detail = terms.detail(node);
      switch (terms.kind(node)) {
        case Terms.NAME:
          deliver(heap.a(heap.bound(names, detail)));
          break;
        case Terms.UNIVERSE:
          deliver(heap.make(Heap.UNIVERSE, detail, NONE));
          break;
        case Terms.NUMBERS:
          deliver(heap.make(Heap.NUMBERS, NONE, NONE));
          break;
        case Terms.EMPTY:
          deliver(heap.make(Heap.EMPTY, NONE, NONE));
          break;
        case Terms.NUMERAL:
          deliver(heap.make(Heap.COUNT, detail, NONE));
          break;
        case Terms.FUNCTION:
          deliver(heap.make(Heap.FUNCTION, NONE, terms.part(node, 0), names, Heap.BINDS));
          break;
        default:
          set(DEED, WORK_PARTS);
          break;
      }
    }

    private void workParts(int node, int names) {
      int found = get(FOUND);
      if (found < terms.workedOut(node)) {
        push(BEGIN_NODE, terms.part(node, found), names);
      } else {
        set(DEED, END_NODE);
      }
    }

    private void endNode(int node, int names) {
      int v = get(VALUES);
      int w = get(VALUES + 1);
      int kind = terms.kind(node);
      switch (kind) {
        case Terms.SUCCESSOR:
          deliver(heap.successor(v));
          break;
        case Terms.RECURSOR:
          set(DEED, BEGIN_REPEAT);
          break;
        case Terms.ABSURD:
          deliver(heap.make(Heap.ABSURD, v, w));
          break;
        case Terms.USE:
          become(BEGIN_USE, v, w);
          break;
        case Terms.PAIR:
          deliver(heap.make(Heap.PAIR, v, w));
          break;
        case Terms.FIRST:
        case Terms.SECOND:
          deliver(heap.half(v, kind == Terms.SECOND));
          break;
        case Terms.FUNCTIONS:
          deliver(heap.make(Heap.FUNCTIONS, v, terms.part(node, 1), names, terms.detail(node)));
          break;
        case Terms.PAIRS:
          deliver(heap.make(Heap.PAIRS, v, terms.part(node, 1), names, terms.detail(node)));
          break;
        case Terms.ANNOTATED:
          deliver(v);
          break;
        case Terms.LET:
          become(BEGIN_NODE, terms.part(node, 2), heap.bind(names, v, NONE));
          break;
        default:
          heap.impossible();
          break;
      }
    }

    private void become(int deed, int x, int y) {
      depth--;
      push(deed, x, y);
    }

    private void beginUse(int function, int argument) {
      if (!meter.spend()) {
        return;
      }
      uses++;
      if (uses > MOST_USES) {
        meter.failAt(TOO_DEEP, meter.focus);
      } else if (heap.isStuck(function)) {
        uses--;
        deliver(heap.make(Heap.USED, function, argument));
      } else if (heap.isClosure(function)) {
        set(DEED, END_USE);
        push(ENTER, function, argument);
      } else {
        heap.impossible();
      }
    }

    private void enter(int closure, int argument) {
      int body = heap.b(closure);
      int names = heap.c(closure);
      switch (heap.d(closure)) {
        case Heap.BINDS:
          become(BEGIN_NODE, body, heap.bind(names, argument, NONE));
          break;
        case Heap.PLAIN:
          become(BEGIN_NODE, body, names);
          break;
        case Heap.STEP:
          become(END_STEP, body, argument);
          push(BEGIN_USE, body, argument);
          break;
        default:
          become(BEGIN_USE, body, heap.successor(names));
          break;
      }
    }

    private void beginRepeat(int family, int zero, int step, int number) {
      if (heap.isStuck(number)) {
        deliver(heap.make(Heap.RECURSION, family, zero, step, number));
        return;
      }
      if (heap.kind(number) != Heap.COUNT) {
        heap.impossible();
        return;
      }
      int ground = heap.b(number);
      if (ground != NONE) {
        set(VALUES + 1, heap.make(Heap.RECURSION, family, zero, step, ground));
      }
      set(DEED, REPEAT);
      set(X, 0);
      set(FOUND, 0);
    }

    /** Values here: s used on k, what has been found so far, s, the number. */
    private void repeat(int k) {
      int found = get(FOUND);
      if (found == 1) {
        push(BEGIN_USE, get(VALUES), get(VALUES + 1));
        return;
      }
      int turn = found == 0 ? k : k + 1;
      int number = get(VALUES + 3);
      set(X, turn);
      set(FOUND, 0);
      if (turn >= heap.a(number)) {
        deliver(get(VALUES + 1));
      } else {
        push(BEGIN_USE, get(VALUES + 2), heap.below(number, turn));
      }
    }
  }

  /** Finds out whether two values are THE SAME. */
  private static final class Likeness {
    private static final int MOST_DEPTH = 60;

    private final Meter meter;
    private final Heap heap;
    private final Machine machine;

    Likeness(Meter meter, Heap heap, Machine machine) {
      this.meter = meter;
      this.heap = heap;
      this.machine = machine;
    }

    boolean same(int v, int w, int level, int depth) {
      if (!meter.spend()) {
        return false;
      }
      if (depth > MOST_DEPTH) {
        return meter.failAt(TOO_DEEP, meter.focus);
      }
      int kind = heap.kind(v);
      int other = heap.kind(w);
      if (kind == Heap.FUNCTION || other == Heap.FUNCTION) {
        return sameUsed(v, w, level, depth);
      }
      if (kind == Heap.PAIR || other == Heap.PAIR) {
        return same(heap.half(v, false), heap.half(w, false), level, depth + 1)
            && same(heap.half(v, true), heap.half(w, true), level, depth + 1);
      }
      if (kind != other) {
        return false;
      }
      if (kind == Heap.FUNCTIONS || kind == Heap.PAIRS) {
        return same(heap.a(v), heap.a(w), level, depth + 1) && sameUsed(v, w, level, depth);
      }
      return sameOfKind(kind, v, w, level, depth + 1);
    }

    private boolean sameUsed(int v, int w, int level, int depth) {
      int variable = heap.make(Heap.VARIABLE, level, NONE);
      int first = machine.use(v, variable);
      int second = machine.use(w, variable);
      return meter.fine() && same(first, second, level + 1, depth + 1);
    }

    private boolean sameOfKind(int kind, int v, int w, int level, int inner) {
      switch (kind) {
        case Heap.UNIVERSE:
        case Heap.VARIABLE:
          return heap.a(v) == heap.a(w);
        case Heap.NUMBERS:
        case Heap.EMPTY:
          return true;
        case Heap.COUNT:
          int ground = heap.b(v);
          int other = heap.b(w);
          boolean alike = heap.a(v) == heap.a(w) && (ground == NONE) == (other == NONE);
          return alike && (ground == NONE || same(ground, other, level, inner));
        case Heap.FIRST:
        case Heap.SECOND:
          return same(heap.a(v), heap.a(w), level, inner);
        case Heap.USED:
        case Heap.ABSURD:
          return same(heap.a(v), heap.a(w), level, inner) && same(heap.b(v), heap.b(w), level, inner);
        case Heap.RECURSION:
          return same(heap.a(v), heap.a(w), level, inner) && same(heap.b(v), heap.b(w), level, inner)
              && same(heap.c(v), heap.c(w), level, inner) && same(heap.d(v), heap.d(w), level, inner);
        default:
          return false;
      }
    }
  }

  /** Finds the type that a term gives, and whether it can be held to one. The height of terms bounds it. */
  private static final class Checker {
    private final Meter meter;
    private final Terms terms;
    private final Heap heap;
    private final Machine machine;
    private final Likeness likeness;
    int universes = 3;

    Checker(Meter meter, Terms terms, Heap heap, Machine machine) {
      this.meter = meter;
      this.terms = terms;
      this.heap = heap;
      this.machine = machine;
      this.likeness = new Likeness(meter, heap, machine);
    }

    private int wrong(int node) {
      meter.failAt(BAD_TYPE, terms.first(node));
      return NONE;
    }

    private int universe(int i) {
      return heap.make(Heap.UNIVERSE, i, NONE);
    }

    private int numbers() {
      return heap.make(Heap.NUMBERS, NONE, NONE);
    }

    private int variable(int level) {
      return heap.make(Heap.VARIABLE, level, NONE);
    }

    /** The type that a term gives, or NONE when there is a fault. */
    int gives(int node, int names, int level) {
      int outer = meter.focus;
      int type = NONE;
      meter.focus = terms.first(node);
      switch (terms.kind(node)) {
        case Terms.NAME:
          type = heap.b(heap.bound(names, terms.detail(node)));
          break;
        case Terms.UNIVERSE:
          int above = terms.detail(node) + 1;
          type = above < universes ? universe(above) : wrong(node);
          break;
        case Terms.NUMBERS:
        case Terms.EMPTY:
          type = universe(0);
          break;
        case Terms.NUMERAL:
          type = numbers();
          break;
        case Terms.SUCCESSOR:
          type = held(terms.part(node, 0), names, level, numbers()) ? numbers() : NONE;
          break;
        case Terms.RECURSOR:
          type = giveRecursor(node, names, level);
          break;
        case Terms.ABSURD:
          type = giveAbsurd(node, names, level);
          break;
        case Terms.USE:
          type = giveUse(node, names, level);
          break;
        case Terms.FIRST:
        case Terms.SECOND:
          type = giveHalf(node, names, level);
          break;
        case Terms.FUNCTIONS:
        case Terms.PAIRS:
          type = giveType(node, names, level);
          break;
        case Terms.ANNOTATED:
          type = giveAnnotated(node, names, level);
          break;
        case Terms.LET:
          int inner = enterLet(node, names, level);
          type = inner == NONE ? NONE : gives(terms.part(node, 2), inner, level);
          break;
        default:
          type = wrong(node);
          break;
      }
      meter.focus = outer;
      return meter.fine() ? type : NONE;
    }

    /** The number of the universe that a term must give. */
    private int universeOf(int node, int names, int level) {
      int type = gives(node, names, level);
      if (type == NONE) {
        return NONE;
      }
      return heap.kind(type) == Heap.UNIVERSE ? heap.a(type) : wrong(node);
    }

    private int giveType(int node, int names, int level) {
      int domain = terms.part(node, 0);
      int range = terms.part(node, 1);
      int i = universeOf(domain, names, level);
      if (i == NONE) {
        return NONE;
      }
      int j;
      if (terms.detail(node) == Heap.BINDS) {
        int type = machine.workOut(domain, names);
        if (type == NONE) {
          return NONE;
        }
        j = universeOf(range, heap.bind(names, variable(level), type), level + 1);
      } else {
        j = universeOf(range, names, level);
      }
      return j == NONE ? NONE : universe(Math.max(i, j));
    }

    private int giveUse(int node, int names, int level) {
      int function = terms.part(node, 0);
      int argument = terms.part(node, 1);
      int type = gives(function, names, level);
      if (type == NONE) {
        return NONE;
      }
      if (heap.kind(type) != Heap.FUNCTIONS) {
        return wrong(function);
      }
      if (!held(argument, names, level, heap.a(type))) {
        return NONE;
      }
      int value = machine.workOut(argument, names);
      return value == NONE ? NONE : machine.use(type, value);
    }

    private int giveHalf(int node, int names, int level) {
      int pair = terms.part(node, 0);
      int type = gives(pair, names, level);
      if (type == NONE) {
        return NONE;
      }
      if (heap.kind(type) != Heap.PAIRS) {
        return wrong(pair);
      }
      if (terms.kind(node) == Terms.FIRST) {
        return heap.a(type);
      }
      int value = machine.workOut(pair, names);
      return value == NONE ? NONE : machine.use(type, heap.half(value, false));
    }

    private int giveRecursor(int node, int names, int level) {
      int motive = terms.part(node, 0);
      int number = terms.part(node, 3);
      int type = gives(motive, names, level);
      if (type == NONE) {
        return NONE;
      }
      int range = takesNumbers(type) ? machine.use(type, variable(level)) : NONE;
      if (heap.kind(range) != Heap.UNIVERSE) {
        return wrong(motive);
      }
      int family = machine.workOut(motive, names);
      if (family == NONE) {
        return NONE;
      }
      int zeroType = machine.use(family, heap.make(Heap.COUNT, 0, NONE));
      if (zeroType == NONE || !held(terms.part(node, 1), names, level, zeroType)) {
        return NONE;
      }
      int stepType = heap.make(Heap.FUNCTIONS, numbers(), family, NONE, Heap.STEP);
      if (!held(terms.part(node, 2), names, level, stepType) || !held(number, names, level, numbers())) {
        return NONE;
      }
      int value = machine.workOut(number, names);
      return value == NONE ? NONE : machine.use(family, value);
    }

    private boolean takesNumbers(int type) {
      return heap.kind(type) == Heap.FUNCTIONS && heap.kind(heap.a(type)) == Heap.NUMBERS;
    }

    private int giveAbsurd(int node, int names, int level) {
      int type = terms.part(node, 0);
      if (universeOf(type, names, level) == NONE) {
        return NONE;
      }
      boolean right = held(terms.part(node, 1), names, level, heap.make(Heap.EMPTY, NONE, NONE));
      return right ? machine.workOut(type, names) : NONE;
    }

    private int giveAnnotated(int node, int names, int level) {
      int type = terms.part(node, 1);
      if (universeOf(type, names, level) == NONE) {
        return NONE;
      }
      int value = machine.workOut(type, names);
      return value != NONE && held(terms.part(node, 0), names, level, value) ? value : NONE;
    }

    /** The names inside a let, or NONE. */
    private int enterLet(int node, int names, int level) {
      int meant = terms.part(node, 0);
      int type = terms.part(node, 1);
      if (universeOf(type, names, level) == NONE) {
        return NONE;
      }
      int typeValue = machine.workOut(type, names);
      if (typeValue == NONE || !held(meant, names, level, typeValue)) {
        return NONE;
      }
      int value = machine.workOut(meant, names);
      return value == NONE ? NONE : heap.bind(names, value, typeValue);
    }

    private boolean held(int node, int names, int level, int type) {
      int outer = meter.focus;
      meter.focus = terms.first(node);
      switch (terms.kind(node)) {
        case Terms.FUNCTION:
          holdFunction(node, names, level, type);
          break;
        case Terms.PAIR:
          holdPair(node, names, level, type);
          break;
        case Terms.LET:
          int inner = enterLet(node, names, level);
          if (inner != NONE) {
            held(terms.part(node, 2), inner, level, type);
          }
          break;
        default:
          int given = gives(node, names, level);
          if (given != NONE && !likeness.same(given, type, level, 1)) {
            wrong(node);
          }
          break;
      }
      meter.focus = outer;
      return meter.fine();
    }

    private void holdFunction(int node, int names, int level, int type) {
      if (heap.kind(type) != Heap.FUNCTIONS) {
        wrong(node);
        return;
      }
      int variable = variable(level);
      int range = machine.use(type, variable);
      if (range != NONE) {
        held(terms.part(node, 0), heap.bind(names, variable, heap.a(type)), level + 1, range);
      }
    }

    private void holdPair(int node, int names, int level, int type) {
      if (heap.kind(type) != Heap.PAIRS) {
        wrong(node);
        return;
      }
      int first = terms.part(node, 0);
      if (!held(first, names, level, heap.a(type))) {
        return;
      }
      int value = machine.workOut(first, names);
      int range = value == NONE ? NONE : machine.use(type, value);
      if (range != NONE) {
        held(terms.part(node, 1), names, level, range);
      }
    }
  }

  /** Tells the normal form of a value as a text. */
  private static final class Teller {
    private static final int MOST_DEPTH = 60;
    private static final int MOST_TOLD = 2000;

    private final Meter meter;
    private final Heap heap;
    private final Machine machine;
    final char[] told = new char[MOST_TOLD];
    int size = 0;

    Teller(Meter meter, Heap heap, Machine machine) {
      this.meter = meter;
      this.heap = heap;
      this.machine = machine;
    }

    void tell(int value, int level, int depth) {
      if (!meter.spend()) {
        return;
      }
      if (depth > MOST_DEPTH) {
        meter.failAt(TOO_DEEP, meter.focus);
        return;
      }
      int kind = heap.kind(value);
      switch (kind) {
        case Heap.UNIVERSE:
          put('U');
          putNumber(heap.a(value));
          break;
        case Heap.NUMBERS:
          put('N');
          break;
        case Heap.EMPTY:
          put('E');
          break;
        case Heap.FUNCTIONS:
        case Heap.PAIRS:
          tellType(value, level, depth);
          break;
        case Heap.FUNCTION:
          put('\\');
          putVariable(level);
          put('.');
          tellUsed(value, level, depth);
          break;
        case Heap.COUNT:
          tellCount(value, level, depth);
          break;
        default:
          tellParts(kind, value, level, depth);
          break;
      }
    }

    private void tellParts(int kind, int value, int level, int depth) {
      int inner = depth + 1;
      switch (kind) {
        case Heap.VARIABLE:
          putVariable(heap.a(value));
          break;
        case Heap.PAIR:
          put('(');
          tell(heap.a(value), level, inner);
          put(',');
          tell(heap.b(value), level, inner);
          put(')');
          break;
        case Heap.USED:
          put('(');
          tell(heap.a(value), level, inner);
          put(' ');
          tell(heap.b(value), level, inner);
          put(')');
          break;
        case Heap.FIRST:
        case Heap.SECOND:
          tell(heap.a(value), level, inner);
          put('.');
          put(kind == Heap.FIRST ? '1' : '2');
          break;
        default:
          tellStuck(kind, value, level, inner);
          break;
      }
    }

    private void tellStuck(int kind, int value, int level, int inner) {
      put('(');
      put(kind == Heap.RECURSION ? 'R' : 'X');
      put(' ');
      tell(heap.a(value), level, inner);
      put(' ');
      tell(heap.b(value), level, inner);
      if (kind == Heap.RECURSION) {
        put(' ');
        tell(heap.c(value), level, inner);
        put(' ');
        tell(heap.d(value), level, inner);
      }
      put(')');
    }

    private void tellType(int type, int level, int depth) {
      put('(');
      putVariable(level);
      put(':');
      tell(heap.a(type), level, depth + 1);
      put(')');
      if (heap.kind(type) == Heap.PAIRS) {
        put('*');
      } else {
        put('-');
        put('>');
      }
      tellUsed(type, level, depth);
    }

    private void tellUsed(int closure, int level, int depth) {
      if (!meter.fine()) {
        return;
      }
      int value = machine.use(closure, heap.make(Heap.VARIABLE, level, NONE));
      tell(value, level + 1, depth + 1);
    }

    private void tellCount(int value, int level, int depth) {
      int count = heap.a(value);
      if (heap.b(value) == NONE) {
        putNumber(count);
        return;
      }
      for (int i = 0; i < count && meter.fine(); i++) {
        put('(');
        put('S');
        put(' ');
      }
      tell(heap.b(value), level, depth + 1);
      for (int i = 0; i < count && meter.fine(); i++) {
        put(')');
      }
    }

    private void putVariable(int k) {
      put('x');
      putNumber(k);
    }

    private void putNumber(int n) {
      for (int unit = 1000; unit > 0; unit /= 10) {
        if (n >= unit || unit == 1) {
          put((char) ('0' + n / unit % 10));
        }
      }
    }

    private void put(char c) {
      if (size >= MOST_TOLD) {
        meter.failAt(LONG_TEXT, meter.focus);
      } else if (meter.fine()) {
        told[size] = c;
        size++;
      }
    }
  }
}
