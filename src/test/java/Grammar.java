import java.util.ArrayDeque;
import java.util.ArrayList;
import java.util.Arrays;
import java.util.Collection;
import java.util.LinkedHashSet;
import java.util.List;
import java.util.Set;

/**
 * The document's grammar, word by word, with Earley's way of following every reading at once: so "the tokens up
 * to there are the beginning of a term" is asked of the rules themselves, not of a parser written from them.
 */
final class Grammar {
  static final List<String> TOKENS = List.of("NAME", "NUMERAL", "U", "N", "E", "S", "R", "X", "let", "\\", ".", ":",
      "=", ";", ",", "(", ")", "*", "->", ".1", ".2");

  private static final List<Rule> RULES = List.of(
      rule("term", "\\ NAME . term"), rule("term", "let NAME : term = term ; term"),
      rule("term", "( NAME : term ) -> term"), rule("term", "( NAME : term ) * term"),
      rule("term", "part"), rule("term", "part -> term"), rule("term", "part * term"),
      rule("part", "head atoms"), rule("atoms", ""), rule("atoms", "atom atoms"),
      rule("head", "S atom"), rule("head", "R atom atom atom atom"), rule("head", "X atom atom"), rule("head", "atom"),
      rule("atom", "base halves"), rule("halves", ""), rule("halves", ".1 halves"), rule("halves", ".2 halves"),
      rule("base", "NAME"), rule("base", "U"), rule("base", "N"), rule("base", "E"), rule("base", "NUMERAL"),
      rule("base", "( term )"), rule("base", "( term , term )"), rule("base", "( term : term )"));

  private record Rule(String name, List<String> parts) { }

  /** A rule of which the first parts are read, from the token with this number on. */
  private record Item(Rule rule, int read, int from) {
    boolean complete() {
      return read == rule.parts.size();
    }

    boolean awaits(String part) {
      return !complete() && rule.parts.get(read).equals(part);
    }

    Item further() {
      return new Item(rule, read + 1, from);
    }
  }

  private final List<String> tokens = new ArrayList<>();
  private final List<Set<Item>> sets = new ArrayList<>();
  private Set<Item> begun = new LinkedHashSet<>();

  Grammar() {
    predict("term", 0, begun);
  }

  private static Rule rule(String name, String parts) {
    return new Rule(name, parts.isEmpty() ? List.of() : Arrays.asList(parts.split(" ")));
  }

  private static void predict(String name, int from, Collection<Item> into) {
    for (Rule rule : RULES) {
      if (rule.name.equals(name)) {
        into.add(new Item(rule, 0, from));
      }
    }
  }

  /** Reads one token more; false, and nothing changes, if the tokens with it are not the beginning of a term. */
  boolean read(String token) {
    Set<Item> next = new LinkedHashSet<>();
    for (Item item : closed(token)) {
      if (item.awaits(token)) {
        next.add(item.further());
      }
    }
    if (next.isEmpty()) {
      return false;
    }
    sets.add(closed(token));
    tokens.add(token);
    begun = next;
    return true;
  }

  boolean isTerm() {
    return closed("").stream().anyMatch(i -> i.rule.name.equals("term") && i.from == 0 && i.complete());
  }

  private Set<Item> closed(String nextToken) {
    Set<Item> found = new LinkedHashSet<>();
    ArrayDeque<Item> open = new ArrayDeque<>(begun);
    while (!open.isEmpty()) {
      Item item = open.remove();
      if (!found.add(item)) {
        continue;
      }
      if (item.complete()) {
        complete(item, nextToken, found, open);
      } else {
        String part = item.rule.parts.get(item.read);
        predict(part, tokens.size(), open);
        if (part.equals("atoms") || part.equals("halves")) {
          open.add(item.further());
        }
      }
    }
    return found;
  }

  private void complete(Item item, String nextToken, Set<Item> found, Collection<Item> open) {
    if (isNamedBase(item) && (nextToken.equals("->") || nextToken.equals("*"))) {
      return;
    }
    Set<Item> waiting = item.from == tokens.size() ? found : sets.get(item.from);
    for (Item other : waiting) {
      if (other.awaits(item.rule.name)) {
        open.add(other.further());
      }
    }
  }

  /** "it is what stands behind the ) that decides: -> or * make a binder". */
  private boolean isNamedBase(Item item) {
    return item.rule.name.equals("base") && item.rule.parts.contains(":")
        && tokens.get(item.from + 1).equals("NAME") && tokens.get(item.from + 2).equals(":");
  }
}
