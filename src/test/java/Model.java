import java.util.ArrayList;
import java.util.List;

/**
 * The document read a second time, in the plainest Java: calls within calls, exceptions for faults, a new
 * object for every value. The tests compare TermDesk with it on texts that nobody wrote by hand.
 */
final class Model {
  static final class Fault extends RuntimeException {
    private static final long serialVersionUID = 1L;
    final int kind;
    final int place;

    Fault(int kind, int place) {
      super(null, null, false, false);
      this.kind = kind;
      this.place = place;
    }
  }

  /** What a looking answers. */
  record Answer(int fault, int place, int cost, String told, int number) {}

  static Answer look(String text, int universes, int fuel, int leftInAll, boolean typeWanted) {
    Model model = new Model(text, universes, Math.min(fuel, leftInAll));
    try {
      Node whole = model.readWhole();
      Value type = model.gives(whole, null, 0);
      model.focus = whole.place();
      Value value = typeWanted ? type : model.eval(whole, null, 0);
      model.tell(value, 0, 1);
      boolean plain = value instanceof Num n && n.ground() == null;
      return new Answer(0, -1, model.cost, model.told.toString(), plain ? ((Num) value).count() : -1);
    } catch (Fault f) {
      return new Answer(f.kind, f.place, model.cost, "", -1);
    }
  }

  private final String text;
  private final int universes;
  private final int fuel;
  private int cost = 0;
  private int focus = 0;
  private final StringBuilder told = new StringBuilder();

  private Model(String text, int universes, int fuel) {
    this.text = text;
    this.universes = universes;
    this.fuel = fuel;
  }

  // ---- reading

  record Node(String kind, int place, String word, List<Node> parts, int height) {
    Node part(int i) {
      return parts.get(i);
    }
  }

  private record Token(String kind, int place, String word) {}

  private int position = 0;
  private Token token;
  private int nodes = 0;
  private int open = 0;

  private Token tokenFrom(int from) {
    int i = from;
    while (i < text.length() && (text.charAt(i) == ' ' || text.charAt(i) == '\n')) {
      i++;
    }
    if (i == text.length()) {
      return new Token("end", i, "");
    }
    String best = "";
    String bestKind = "";
    for (int n = 1; n <= 8 && i + n <= text.length(); n++) {
      String word = text.substring(i, i + n);
      String kind = kindOf(word);
      if (kind != null) {
        best = word;
        bestKind = kind;
      }
    }
    if (best.isEmpty()) {
      throw new Fault(1, i);
    }
    return new Token(bestKind, i, best);
  }

  private static String kindOf(String word) {
    if (word.equals("let")) {
      return "let";
    }
    if (word.matches("[a-z][A-Za-z0-9_]{0,7}")) {
      return "name";
    }
    if (word.matches("U[0-9]")) {
      return "U";
    }
    if (word.matches("[0-9]{1,4}")) {
      return "numeral";
    }
    boolean sign = List.of("N", "E", "S", "R", "X").contains(word)
        || List.of("\\", ".", ":", "=", ";", ",", "(", ")", "*", "->", ".1", ".2").contains(word);
    return sign ? word : null;
  }

  private void next() {
    position = token.place + token.word.length();
    token = tokenFrom(position);
  }

  private boolean isNow(String kind) {
    return token.kind.equals(kind);
  }

  private Token expect(String kind) {
    if (!isNow(kind)) {
      throw new Fault(1, token.place);
    }
    Token taken = token;
    next();
    return taken;
  }

  private Node node(String kind, int place, String word, Node... parts) {
    int height = 1;
    for (Node p : parts) {
      height = Math.max(height, p.height + 1);
    }
    nodes++;
    if (nodes > 300 || height > 30) {
      throw new Fault(1, place);
    }
    return new Node(kind, place, word, List.of(parts), height);
  }

  private Node readWhole() {
    token = tokenFrom(0);
    Node whole = term();
    if (!isNow("end")) {
      throw new Fault(1, token.place);
    }
    int unknown = firstUnknown(whole, List.of());
    if (unknown >= 0) {
      throw new Fault(2, unknown);
    }
    return whole;
  }

  private static int firstUnknown(Node n, List<String> names) {
    if (n.kind.equals("name")) {
      return names.contains(n.word) ? -1 : n.place;
    }
    int least = -1;
    for (int i = 0; i < n.parts.size(); i++) {
      boolean inside = i == n.parts.size() - 1 && !n.word.isEmpty()
          && List.of("\\", "let", "->", "*").contains(n.kind);
      List<String> inner = new ArrayList<>(names);
      if (inside) {
        inner.add(n.word);
      }
      int found = firstUnknown(n.part(i), inner);
      if (found >= 0 && (least < 0 || found < least)) {
        least = found;
      }
    }
    return least;
  }

  private Node term() {
    open++;
    if (open > 30) {
      throw new Fault(1, token.place);
    }
    int place = token.place;
    Node made;
    if (isNow("\\")) {
      next();
      String name = expect("name").word;
      expect(".");
      made = node("\\", place, name, term());
    } else if (isNow("let")) {
      next();
      String name = expect("name").word;
      expect(":");
      Node type = term();
      expect("=");
      Node meant = term();
      expect(";");
      made = node("let", place, name, type, meant, term());
    } else {
      made = part();
      if (isNow("->") || isNow("*")) {
        String kind = token.kind;
        next();
        made = node(kind, made.place, "", made, term());
      }
    }
    open--;
    return made;
  }

  private Node part() {
    int place = token.place;
    Node made;
    if (isNow("S")) {
      next();
      made = node("S", place, "", atom(false));
    } else if (isNow("R")) {
      next();
      Node m = atom(false);
      Node z = atom(false);
      Node s = atom(false);
      made = node("R", place, "", m, z, s, atom(false));
    } else if (isNow("X")) {
      next();
      Node a = atom(false);
      made = node("X", place, "", a, atom(false));
    } else {
      made = atom(true);
    }
    while (List.of("name", "U", "N", "E", "numeral", "(").contains(token.kind)) {
      made = node("use", made.place, "", made, atom(false));
    }
    return made;
  }

  private Node atom(boolean beginsTerm) {
    Node made = base(beginsTerm);
    while (isNow(".1") || isNow(".2")) {
      String kind = token.kind;
      next();
      made = node(kind, made.place, "", made);
    }
    return made;
  }

  private Node base(boolean beginsTerm) {
    Token t = token;
    if (List.of("name", "U", "N", "E", "numeral").contains(t.kind)) {
      next();
      return node(t.kind, t.place, t.word);
    }
    expect("(");
    if (isNow("name") && tokenFrom(token.place + token.word.length()).kind.equals(":")) {
      Token name = token;
      next();
      next();
      Node type = term();
      expect(")");
      if (!isNow("->") && !isNow("*")) {
        return node("(:)", t.place, "", node("name", name.place, name.word), type);
      }
      if (!beginsTerm) {
        throw new Fault(1, token.place);
      }
      String kind = token.kind;
      next();
      return node(kind, t.place, name.word, type, term());
    }
    Node made = term();
    if (isNow(",") || isNow(":")) {
      String kind = isNow(",") ? "(,)" : "(:)";
      next();
      Node other = term();
      expect(")");
      return node(kind, t.place, "", made, other);
    }
    expect(")");
    return made;
  }

  // ---- values

  interface Value {}

  interface Stuck extends Value {}

  interface Closure {
    Value apply(Value argument, int uses);
  }

  record Names(String name, Value value, Value type, Names outside) {
    static Names find(Names names, String name) {
      return names.name.equals(name) ? names : find(names.outside, name);
    }
  }

  record Sort(int i) implements Value {}

  record Flat(char letter) implements Value {}

  record Type(boolean pairs, Value domain, Closure range) implements Value {}

  record Fun(Closure body) implements Value {}

  record Pair(Value first, Value second) implements Value {}

  record Num(int count, Stuck ground) implements Value {}

  record Var(int k) implements Stuck {}

  record App(Stuck function, Value argument) implements Stuck {}

  record Half(int which, Stuck pair) implements Stuck {}

  record Rec(Value m, Value z, Value s, Stuck number) implements Stuck {}

  record Abs(Value type, Stuck value) implements Stuck {}

  private static final Value NUMBERS = new Flat('N');
  private static final Value EMPTY = new Flat('E');

  private void spend() {
    if (cost + 1 > fuel) {
      throw new Fault(4, focus);
    }
    cost++;
  }

  /** The argument uses tells how many are under way around this one. */
  private Value use(Value f, Value argument, int uses) {
    spend();
    if (uses + 1 > 25) {
      throw new Fault(6, focus);
    }
    if (f instanceof Fun fun) {
      return fun.body.apply(argument, uses + 1);
    }
    if (f instanceof Type type) {
      return type.range.apply(argument, uses + 1);
    }
    return new App((Stuck) f, argument);
  }

  private Value more(Value v) {
    if (v instanceof Stuck s) {
      return new Num(1, s);
    }
    Num n = (Num) v;
    if (n.count == 9999) {
      throw new Fault(5, focus);
    }
    return new Num(n.count + 1, n.ground);
  }

  private static Value half(Value v, int which) {
    if (v instanceof Pair p) {
      return which == 1 ? p.first : p.second;
    }
    return new Half(which, (Stuck) v);
  }

  private Closure closure(Node body, String name, Names names) {
    return (argument, uses) ->
        eval(body, name.isEmpty() ? names : new Names(name, argument, null, names), uses);
  }

  private Value eval(Node n, Names names, int uses) {
    spend();
    switch (n.kind) {
      case "name":
        return Names.find(names, n.word).value;
      case "U":
        return new Sort(n.word.charAt(1) - '0');
      case "N":
        return NUMBERS;
      case "E":
        return EMPTY;
      case "numeral":
        return new Num(Integer.parseInt(n.word), null);
      case "S":
        return more(eval(n.part(0), names, uses));
      case "R":
        return recur(n, names, uses);
      case "X":
        Value type = eval(n.part(0), names, uses);
        return new Abs(type, (Stuck) eval(n.part(1), names, uses));
      case "use":
        Value f = eval(n.part(0), names, uses);
        return use(f, eval(n.part(1), names, uses), uses);
      case "(,)":
        Value first = eval(n.part(0), names, uses);
        return new Pair(first, eval(n.part(1), names, uses));
      case ".1":
        return half(eval(n.part(0), names, uses), 1);
      case ".2":
        return half(eval(n.part(0), names, uses), 2);
      case "\\":
        return new Fun(closure(n.part(0), n.word, names));
      case "(:)":
        return eval(n.part(0), names, uses);
      case "let":
        Value meant = eval(n.part(1), names, uses);
        return eval(n.part(2), new Names(n.word, meant, null, names), uses);
      default:
        Value domain = eval(n.part(0), names, uses);
        return new Type(n.kind.equals("*"), domain, closure(n.part(1), n.word, names));
    }
  }

  private Value recur(Node n, Names names, int uses) {
    Value m = eval(n.part(0), names, uses);
    Value z = eval(n.part(1), names, uses);
    Value s = eval(n.part(2), names, uses);
    Value t = eval(n.part(3), names, uses);
    if (t instanceof Stuck stuck) {
      return new Rec(m, z, s, stuck);
    }
    Num num = (Num) t;
    Value r = num.ground == null ? z : new Rec(m, z, s, num.ground);
    for (int k = 0; k < num.count; k++) {
      Value before = k == 0 && num.ground != null ? num.ground : new Num(k, num.ground);
      r = use(use(s, before, uses), r, uses);
    }
    return r;
  }

  // ---- the same

  private boolean same(Value v, Value w, int level, int depth) {
    spend();
    if (depth > 60) {
      throw new Fault(6, focus);
    }
    if (v instanceof Fun || w instanceof Fun) {
      return sameUsed(v, w, level, depth);
    }
    if (v instanceof Pair || w instanceof Pair) {
      return same(half(v, 1), half(w, 1), level, depth + 1) && same(half(v, 2), half(w, 2), level, depth + 1);
    }
    if (v instanceof Sort || v instanceof Flat || v instanceof Var) {
      return v.equals(w);
    }
    if (v instanceof Type a && w instanceof Type b) {
      return a.pairs == b.pairs && same(a.domain, b.domain, level, depth + 1) && sameUsed(v, w, level, depth);
    }
    if (v instanceof Num a && w instanceof Num b) {
      if (a.count != b.count || (a.ground == null) != (b.ground == null)) {
        return false;
      }
      return a.ground == null || same(a.ground, b.ground, level, depth + 1);
    }
    return sameAll(stuckParts(v), stuckParts(w), v, w, level, depth);
  }

  private boolean sameAll(List<Value> vs, List<Value> ws, Value v, Value w, int level, int depth) {
    if (v.getClass() != w.getClass()) {
      return false;
    }
    if (v instanceof Half a && w instanceof Half b && a.which != b.which) {
      return false;
    }
    for (int i = 0; i < vs.size(); i++) {
      if (!same(vs.get(i), ws.get(i), level, depth + 1)) {
        return false;
      }
    }
    return true;
  }

  private static List<Value> stuckParts(Value v) {
    if (v instanceof App a) {
      return List.of(a.function, a.argument);
    }
    if (v instanceof Half h) {
      return List.of(h.pair);
    }
    if (v instanceof Rec r) {
      return List.of(r.m, r.z, r.s, r.number);
    }
    return v instanceof Abs a ? List.of(a.type, a.value) : List.of();
  }

  private boolean sameUsed(Value v, Value w, int level, int depth) {
    Value x = new Var(level);
    Value a = use(v, x, 0);
    Value b = use(w, x, 0);
    return same(a, b, level + 1, depth + 1);
  }

  // ---- types

  private Fault wrong(Node n) {
    return new Fault(3, n.place);
  }

  private Value gives(Node n, Names names, int level) {
    int outer = focus;
    focus = n.place;
    Value type = giveInside(n, names, level);
    focus = outer;
    return type;
  }

  private int universeOf(Node n, Names names, int level) {
    if (gives(n, names, level) instanceof Sort s) {
      return s.i;
    }
    throw wrong(n);
  }

  private Type typeOf(boolean pairs, Node n, Names names, int level) {
    if (gives(n, names, level) instanceof Type t && t.pairs == pairs) {
      return t;
    }
    throw wrong(n);
  }

  private Value giveInside(Node n, Names names, int level) {
    switch (n.kind) {
      case "name":
        return Names.find(names, n.word).type;
      case "U":
        int i = n.word.charAt(1) - '0';
        if (i + 1 >= universes) {
          throw wrong(n);
        }
        return new Sort(i + 1);
      case "N":
      case "E":
        return new Sort(0);
      case "numeral":
        return NUMBERS;
      case "S":
        held(n.part(0), NUMBERS, names, level);
        return NUMBERS;
      case "R":
        return giveRecursion(n, names, level);
      case "X":
        universeOf(n.part(0), names, level);
        held(n.part(1), EMPTY, names, level);
        return eval(n.part(0), names, 0);
      case "use":
        Type f = typeOf(false, n.part(0), names, level);
        held(n.part(1), f.domain, names, level);
        return use(f, eval(n.part(1), names, 0), 0);
      case ".1":
        return typeOf(true, n.part(0), names, level).domain;
      case ".2":
        Type p = typeOf(true, n.part(0), names, level);
        return use(p, half(eval(n.part(0), names, 0), 1), 0);
      case "(:)":
        universeOf(n.part(1), names, level);
        Value type = eval(n.part(1), names, 0);
        held(n.part(0), type, names, level);
        return type;
      case "let":
        return gives(n.part(2), inLet(n, names, level), level);
      case "\\":
      case "(,)":
        throw wrong(n);
      default:
        int a = universeOf(n.part(0), names, level);
        Names inner = names;
        int innerLevel = level;
        if (!n.word.isEmpty()) {
          inner = new Names(n.word, new Var(level), eval(n.part(0), names, 0), names);
          innerLevel++;
        }
        return new Sort(Math.max(a, universeOf(n.part(1), inner, innerLevel)));
    }
  }

  private Names inLet(Node n, Names names, int level) {
    universeOf(n.part(0), names, level);
    Value type = eval(n.part(0), names, 0);
    held(n.part(1), type, names, level);
    return new Names(n.word, eval(n.part(1), names, 0), type, names);
  }

  private Value giveRecursion(Node n, Names names, int level) {
    Node motive = n.part(0);
    Type type = typeOf(false, motive, names, level);
    if (type.domain != NUMBERS || !(use(type, new Var(level), 0) instanceof Sort)) {
      throw wrong(motive);
    }
    Value m = eval(motive, names, 0);
    held(n.part(1), use(m, new Num(0, null), 0), names, level);
    Closure step = (k, uses) -> new Type(false, use(m, k, uses), (r, inner) -> use(m, more(k), inner));
    held(n.part(2), new Type(false, NUMBERS, step), names, level);
    held(n.part(3), NUMBERS, names, level);
    return use(m, eval(n.part(3), names, 0), 0);
  }

  private void held(Node n, Value type, Names names, int level) {
    int outer = focus;
    focus = n.place;
    if (n.kind.equals("\\")) {
      if (!(type instanceof Type f) || f.pairs) {
        throw wrong(n);
      }
      Value x = new Var(level);
      held(n.part(0), use(f, x, 0), new Names(n.word, x, f.domain, names), level + 1);
    } else if (n.kind.equals("(,)")) {
      if (!(type instanceof Type p) || !p.pairs) {
        throw wrong(n);
      }
      held(n.part(0), p.domain, names, level);
      held(n.part(1), use(p, eval(n.part(0), names, 0), 0), names, level);
    } else if (n.kind.equals("let")) {
      held(n.part(2), type, inLet(n, names, level), level);
    } else if (!same(gives(n, names, level), type, level, 1)) {
      throw wrong(n);
    }
    focus = outer;
  }

  // ---- the text told

  private void put(String s) {
    told.append(s);
    if (told.length() > 2000) {
      throw new Fault(7, focus);
    }
  }

  private void tell(Value v, int level, int depth) {
    spend();
    if (depth > 60) {
      throw new Fault(6, focus);
    }
    if (v instanceof Var x) {
      put("x" + x.k);
    } else if (v instanceof Sort s) {
      put("U" + s.i);
    } else if (v instanceof Flat f) {
      put("" + f.letter);
    } else if (v instanceof Type t) {
      put("(x" + level + ":");
      tell(t.domain, level, depth + 1);
      put(t.pairs ? ")*" : ")->");
      tell(use(v, new Var(level), 0), level + 1, depth + 1);
    } else if (v instanceof Fun) {
      put("\\x" + level + ".");
      tell(use(v, new Var(level), 0), level + 1, depth + 1);
    } else if (v instanceof Pair p) {
      tellList("(", List.of(p.first, p.second), ",", ")", level, depth);
    } else if (v instanceof Num n) {
      tellNumber(n, level, depth);
    } else if (v instanceof Half h) {
      tellList("", List.of(h.pair), "", "." + h.which, level, depth);
    } else {
      String head = v instanceof Rec ? "(R " : v instanceof Abs ? "(X " : "(";
      tellList(head, stuckParts(v), " ", ")", level, depth);
    }
  }

  private void tellNumber(Num n, int level, int depth) {
    if (n.ground == null) {
      put("" + n.count);
      return;
    }
    for (int i = 0; i < n.count; i++) {
      put("(S ");
    }
    tell(n.ground, level, depth + 1);
    for (int i = 0; i < n.count; i++) {
      put(")");
    }
  }

  private void tellList(String left, List<Value> parts, String mid, String right, int level, int depth) {
    put(left);
    for (int i = 0; i < parts.size(); i++) {
      put(i == 0 ? "" : mid);
      tell(parts.get(i), level, depth + 1);
    }
    put(right);
  }
}
