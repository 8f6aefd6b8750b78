import java.util.ArrayList;
import java.util.List;
import java.util.Random;

/** Makes texts whose types are mostly right: a type first, then a term for it. */
final class Maker {
  /** A type: N, E, U, a name of a type, or functions and pairs of two types. */
  private record Kind(String head, Kind a, Kind b) {
    String text() {
      if (a == null) {
        return head;
      }
      return "(" + a.text() + " " + head + " " + b.text() + ")";
    }
  }

  private record Known(String name, Kind kind) {}

  private static final Kind NUMBERS = new Kind("N", null, null);
  private static final Kind EMPTY = new Kind("E", null, null);
  private static final Kind TYPES = new Kind("U0", null, null);

  private final Random random;
  private final List<Known> known = new ArrayList<>();
  private int names = 0;

  Maker(Random random) {
    this.random = random;
  }

  String program() {
    StringBuilder text = new StringBuilder();
    for (int n = random.nextInt(4); n > 0; n--) {
      Kind kind = kind(2);
      String name = fresh();
      text.append("let ").append(name).append(" : ").append(kind.text()).append(" = ");
      text.append(term(kind, 3)).append(";\n");
      known.add(new Known(name, kind));
    }
    Kind kind = kind(3);
    text.append("(").append(term(kind, 4)).append(" : ").append(kind.text()).append(")");
    if (kind.head.equals("->") && random.nextBoolean()) {
      text.append(" ").append(atom(kind.a, 2));
    }
    return text.toString();
  }

  private String fresh() {
    names++;
    return random.nextInt(8) == 0 ? "v" : "v" + names;
  }

  private Kind kind(int depth) {
    int n = random.nextInt(depth > 0 ? 9 : 4);
    switch (n) {
      case 0:
        return random.nextInt(3) == 0 ? EMPTY : NUMBERS;
      case 1:
        return random.nextInt(3) == 0 ? TYPES : NUMBERS;
      case 2:
      case 3:
        return NUMBERS;
      default:
        return new Kind(n < 7 ? "->" : "*", kind(depth - 1), kind(depth - 1));
    }
  }

  private String atom(Kind kind, int depth) {
    String text = term(kind, depth);
    return text.matches("[a-z0-9]+|\\([a-z0-9]*\\)") ? text : "(" + text + ")";
  }

  private String term(Kind kind, int depth) {
    int n = random.nextInt(10);
    if (n == 0 && depth > 0) {
      return let(kind, depth);
    }
    if (n == 1 && depth > 0) {
      return usedAtOnce(kind(1), kind, depth - 1);
    }
    if (n < 6) {
      String name = knownOf(kind);
      if (name != null) {
        return name;
      }
    }
    if (n == 6 && depth > 0) {
      String use = useOf(kind, depth);
      if (use != null) {
        return use;
      }
    }
    return madeOf(kind, depth);
  }

  private String usedAtOnce(Kind from, Kind to, int depth) {
    return "((" + function(from, to, depth) + ") : " + from.text() + " -> " + to.text() + ") " + atom(from, depth);
  }

  private String let(Kind kind, int depth) {
    Kind other = kind(1);
    String name = fresh();
    String meant = term(other, depth - 1);
    known.add(new Known(name, other));
    String body = term(kind, depth - 1);
    known.remove(known.size() - 1);
    return "let " + name + " : " + other.text() + " = " + meant + "; " + body;
  }

  private String knownOf(Kind kind) {
    List<String> fit = new ArrayList<>();
    for (Known k : known) {
      if (k.kind.equals(kind)) {
        fit.add(k.name);
      }
    }
    return fit.isEmpty() ? null : fit.get(random.nextInt(fit.size()));
  }

  private String useOf(Kind kind, int depth) {
    for (int i = known.size() - 1; i >= 0; i--) {
      Known k = known.get(i);
      if (k.kind.head.equals("->") && k.kind.b.equals(kind)) {
        return k.name + " " + atom(k.kind.a, depth - 1);
      }
      if (k.kind.head.equals("*") && k.kind.a.equals(kind)) {
        return k.name + ".1";
      }
      if (k.kind.head.equals("*") && k.kind.b.equals(kind)) {
        return k.name + ".2";
      }
    }
    return null;
  }

  private String function(Kind from, Kind to, int depth) {
    String name = fresh();
    known.add(new Known(name, from));
    String body = term(to, depth);
    known.remove(known.size() - 1);
    return "\\" + name + ". " + body;
  }

  private String madeOf(Kind kind, int depth) {
    String empty = knownOf(EMPTY);
    if (empty != null && random.nextInt(4) == 0) {
      return "X " + kind.text() + " " + empty;
    }
    switch (kind.head) {
      case "->":
        return function(kind.a, kind.b, depth - 1);
      case "*":
        return "(" + term(kind.a, depth - 1) + ", " + term(kind.b, depth - 1) + ")";
      case "U0":
        return depth > 0 && random.nextBoolean() ? recursion(kind, "U1", depth) : kind(1).text();
      case "E":
        return empty != null ? empty : "X E 0";
      default:
        return number(depth);
    }
  }

  private String number(int depth) {
    if (depth <= 0 || random.nextInt(3) == 0) {
      return "" + random.nextInt(random.nextInt(9) == 0 ? 9999 : 6);
    }
    return random.nextBoolean() ? "S " + atom(NUMBERS, depth - 1) : recursion(NUMBERS, "U0", depth);
  }

  private String recursion(Kind kind, String universe, int depth) {
    String step = "(\\k. " + function(kind, kind, depth - 1) + ")";
    return "R ((\\k. " + kind.text() + ") : N -> " + universe + ") " + atom(kind, depth - 1) + " " + step + " "
        + atom(NUMBERS, depth - 1);
  }
}
