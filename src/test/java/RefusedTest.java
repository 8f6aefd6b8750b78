import java.util.ArrayList;
import java.util.List;
import java.util.Random;

/** A call that is refused changes nothing: of two objects with the same calls, one has refused ones among them. */
public final class RefusedTest {
  private static final Due DUE = new Due("RefusedTest");
  private static final int[] BAD_CODES = {1, 9, 11, 13, 31, 127, 128, 160, 255};
  private static final int[] BAD_LEVELS = {0, -1, 9, 10, 259, -253, Integer.MIN_VALUE, Integer.MAX_VALUE};
  private static final int[] BAD_FUELS = {-1, 20001, 65636, Integer.MIN_VALUE, Integer.MAX_VALUE};

  /** A call and its answer, as a number. */
  private interface Call {
    long on(TermDesk desk);
  }

  private record Refused(String name, Call call, long answer) {}

  private record State(String name, int size, Call made) {}

  public static void main(String[] args) {
    DUE.sentence("A call that is refused changes nothing");
    for (State state : states()) {
      for (Refused refused : refused(state.size)) {
        oneAmong(state, refused);
      }
      allAmong(state);
    }
    lookingsAreNotCounted();
    for (int seed = 1; seed <= 150; seed++) {
      manyAmong(seed);
    }
    DUE.end();
  }

  private static List<Refused> refused(int size) {
    List<Refused> all = new ArrayList<>();
    for (int code : BAD_CODES) {
      for (int i = 0; i < 8; i++) {
        long chars = Due.chars("N N N N N".substring(0, i)) | (long) code << (8 * i);
        all.add(new Refused("code " + code + " behind " + i, desk -> desk.write(chars), -1));
      }
    }
    for (int n = 801 - size; n <= 8; n++) {
      long chars = Due.chars("77777777".substring(0, n));
      all.add(new Refused(n + " too many", desk -> desk.write(chars), -1));
    }
    for (int n : BAD_LEVELS) {
      all.add(new Refused("levels(" + n + ")", desk -> desk.levels(n) ? 1 : 0, 0));
    }
    for (int fuel : BAD_FUELS) {
      all.add(new Refused("check(" + fuel + ")", desk -> desk.check(fuel), -1));
      all.add(new Refused("normal(" + fuel + ")", desk -> desk.normal(fuel), -1));
    }
    all.add(new Refused("at(-1)", desk -> desk.at(-1), -1));
    all.add(new Refused("at(2000)", desk -> desk.at(2000), -1));
    return all;
  }

  private static State looked(String name, String text, boolean type, int fuel) {
    return new State(name, text.length(), desk -> {
      Due.put(desk, text);
      return type ? desk.check(fuel) : desk.normal(fuel);
    });
  }

  private static State lookings(int count) {
    return new State(count + " lookings", 4, desk -> {
      desk.write(Due.chars("S 41"));
      for (int i = 0; i < count; i++) {
        desk.normal(20);
      }
      return 0;
    });
  }

  private static State spent(int last) {
    return new State("all but " + (10000 - last) + " spent", Programs.DEAR.length(), desk -> {
      Due.put(desk, Programs.DEAR);
      for (int i = 0; i < 7; i++) {
        desk.normal(20000);
      }
      return desk.normal(last);
    });
  }

  private static State written(int size) {
    return new State(size + " characters", size, desk -> {
      Due.put(desk, "S 4".concat(" ".repeat(size)).substring(0, size));
      return desk.normal(20);
    });
  }

  private static List<State> states() {
    String pair = "((\\n. (R ((\\k. N) : N -> U0) n (\\k. \\r. S r) 497, 123)) : N -> N * N)";
    List<State> all = new ArrayList<>();
    all.add(new State("a new object", 0, desk -> 0));
    all.add(new State("a text not looked at", 4, desk -> desk.write(Due.chars("S 41"))));
    all.add(new State("five levels", 2, desk -> desk.levels(5) ? desk.write(Due.chars("U3")) : 0));
    all.add(new State("one level", 2, desk -> desk.levels(1) ? desk.write(Due.chars("U0")) : 0));
    all.add(looked("a type told", "(4 : N)", true, 20));
    all.add(looked("a number told", "S 41", false, 20));
    all.add(looked("a long text told", pair, false, 20000));
    all.add(looked("fault 1", "(N", true, 20));
    all.add(looked("fault 2", "N x", false, 20));
    all.add(looked("fault 3", "S N", true, 20));
    all.add(looked("fault 4", "S 41", false, 3));
    all.add(looked("fault 5", "S 9999", false, 20));
    all.add(looked("fault 6", Programs.ROW + "p 60", false, 20000));
    all.add(looked("fault 7", pair.replace("123", "1234"), false, 20000));
    all.add(written(792));
    all.add(written(793));
    all.add(written(796));
    all.add(written(799));
    all.add(written(800));
    all.add(lookings(255));
    all.add(lookings(256));
    all.add(lookings(257));
    all.add(spent(9997));
    all.add(spent(9999));
    all.add(spent(10000));
    return all;
  }

  private static TermDesk inState(State state) {
    TermDesk desk = new TermDesk();
    state.made.on(desk);
    return desk;
  }

  private static void oneAmong(State state, Refused refused) {
    TermDesk plain = inState(state);
    TermDesk other = inState(state);
    String what = refused.name + " with " + state.name;
    DUE.is(what, refused.call.on(other), refused.answer);
    DUE.is("after " + what, future(other), future(plain));
  }

  private static void allAmong(State state) {
    TermDesk plain = inState(state);
    TermDesk other = inState(state);
    for (Refused refused : refused(state.size)) {
      refused.call.on(other);
    }
    DUE.is("after all refused ones with " + state.name, future(other), future(plain));
  }

  private static String seen(TermDesk desk) {
    int length = desk.length();
    return desk.place() + " " + desk.cost() + " " + desk.number() + " " + length + " " + desk.at(0) + " "
        + desk.at(length / 2) + " " + desk.at(length - 1) + " " + desk.at(length) + "; ";
  }

  /** What the calls answer from now on. */
  private static String future(TermDesk desk) {
    StringBuilder answers = new StringBuilder(seen(desk));
    answers.append(desk.check(100)).append(' ').append(seen(desk));
    answers.append(desk.normal(3)).append(' ').append(seen(desk));
    answers.append(desk.normal(20000)).append(' ').append(seen(desk));
    answers.append(desk.write(' ')).append(' ').append(desk.write(Due.chars("1234"))).append(' ');
    answers.append(desk.check(20000)).append(' ').append(seen(desk));
    answers.append(desk.erase()).append(' ');
    for (int i = 0; i <= 8; i++) {
      desk.write(Due.chars("U" + i));
      answers.append(desk.check(1)).append(' ').append(desk.erase()).append(' ');
    }
    return answers.append(seen(desk)).toString();
  }

  private static void lookingsAreNotCounted() {
    TermDesk desk = Due.desk("S 41");
    for (int i = 0; i < 240; i++) {
      DUE.is("refused", i % 2 == 0 ? desk.check(-1 - i) : desk.normal(20001 + i), -1);
    }
    for (int i = 1; i <= 256; i++) {
      DUE.is("looking " + i + " behind 240 refused ones", desk.normal(20), 0);
    }
    DUE.is("the 257th", desk.normal(20), 4);
  }

  private static String piece(Random random) {
    String[] pieces = {"N", "S 41", "(", ")", "U1", " -> ", "\\x. ", "x", "7 ", "let x : N = 3; ", "U2", "(1 : N)"};
    return pieces[random.nextInt(pieces.length)];
  }

  private static Call someCall(Random random) {
    int n = random.nextInt(10);
    int fuel = random.nextBoolean() ? random.nextInt(12) : random.nextInt(20001);
    int levels = 1 + random.nextInt(8);
    if (n < 4) {
      String piece = piece(random);
      return desk -> desk.write(Due.chars(piece.substring(0, Math.min(8, piece.length()))));
    }
    if (n == 4) {
      return desk -> desk.erase();
    }
    if (n == 5) {
      return desk -> desk.levels(levels) ? 1 : 0;
    }
    return n < 8 ? desk -> desk.check(fuel) : desk -> desk.normal(fuel);
  }

  private static void manyAmong(int seed) {
    Random random = new Random(seed);
    TermDesk plain = new TermDesk();
    TermDesk other = new TermDesk();
    List<Refused> refused = refused(0);
    for (int i = 0; i < 45; i++) {
      if (random.nextBoolean()) {
        Refused one = refused.get(random.nextInt(refused.size()));
        DUE.is(one.name + " in run " + seed, one.call.on(other), one.answer);
      }
      Call call = someCall(random);
      DUE.is("call " + i + " of run " + seed, call.on(other), call.on(plain));
      DUE.is("seen behind call " + i + " of run " + seed, seen(other), seen(plain));
    }
  }
}
