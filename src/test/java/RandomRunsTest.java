import java.util.function.DoubleSupplier;
import java.util.function.IntSupplier;

/** Many made-up runs, all promises together: the program and the Model are to answer the same. */
public final class RandomRunsTest {
  private static final int RUNS = 6000;
  // What the steps say most, each of it fitted by one of these.
  private static final String[] TAME = {
    "put {i}", "add {d}", "is {w}", "say {s}", "{i} {i}", "big {i}", "x {w} {i}", "a(b)c", "{w}-{w}", "sum/total",
    "wait a (long )while", "go on"
  };
  private static final int CALLS = 512;

  private long seed;
  private StoryDesk desk;
  private Model model;
  private int calls;
  private int run;
  private int wrong;
  private boolean tame;
  private final StringBuilder told = new StringBuilder();

  public static void main(String[] args) {
    RandomRunsTest t = new RandomRunsTest();
    for (t.run = 0; t.run < RUNS && t.wrong == 0; t.run++) {
      t.oneRun();
    }
    System.out.println(t.run + " runs, " + t.wrong + " wrong answers");
    System.exit(t.wrong == 0 ? 0 : 1);
  }

  /** A number below a bound, the same ones each time. */
  private int below(int bound) {
    seed = seed * 6364136223846793005L + 1442695040888963407L;
    return (int) ((seed >>> 33) % bound);
  }

  private boolean chance(int percent) {
    return below(100) < percent;
  }

  private String pick(String... some) {
    return some[below(some.length)];
  }

  private String chars(String of, int most) {
    StringBuilder out = new StringBuilder();
    for (int n = below(most + 1); n > 0; n--) {
      out.append(of.charAt(below(of.length())));
    }
    return out.toString();
  }

  private void oneRun() {
    seed = run * 7919L + 17;
    desk = new StoryDesk();
    model = new Model();
    calls = 0;
    told.setLength(0);
    tame = chance(70);
    for (int i = below(tame ? 10 : 20); i > 0; i--) {
      command();
    }
    for (int i = tame ? 12 : below(8); i > 0; i--) {
      define();
    }
    for (int i = chance(50) ? 0 : below(tame ? 4 : 9); i > 0; i--) {
      hook();
    }
    while (calls < CALLS && wrong == 0) {
      act();
    }
  }

  private void act() {
    int what = below(100);
    if (what < 5) {
      read();
    } else if (what < 20) {
      define();
    } else if (what < 23) {
      hook();
    } else if (what < 26) {
      filter();
    } else if (what < 30) {
      command();
    } else if (what < 40) {
      int workers = chance(5) ? below(7) - 1 : 1 + below(3);
      same("start " + workers, () -> desk.start(workers), () -> model.start(workers));
    } else if (what < 60) {
      int n = chance(3) ? below(60) - 10 : 1 + below(chance(50) ? 4 : 40);
      same("go " + n, () -> desk.go(n), () -> model.go(n));
      lookAtRun();
    } else {
      lookAtCases();
    }
  }

  private void same(String what, IntSupplier one, IntSupplier other) {
    if (calls >= CALLS) {
      return;
    }
    calls++;
    String got = answer(one);
    String due = answer(other);
    if (told.length() < 60000) {
      told.append(what).append(" -> ").append(got).append('\n');
    }
    if (!got.equals(due)) {
      wrong++;
      System.out.println(told + "run " + run + ": the last one is due to be " + due);
    }
  }

  private static String answer(IntSupplier call) {
    try {
      return "" + call.getAsInt();
    } catch (RuntimeException e) {
      return e.getClass().getSimpleName();
    }
  }

  private void put(String text) {
    for (int i = 0; i < text.length(); i += 8) {
      String piece = text.substring(i, Math.min(text.length(), i + 8));
      long bytes = Check.bytes(piece);
      same("put '" + piece + "'", () -> desk.put(bytes, piece.length()) ? 1 : 0, () -> model.put(bytes, piece.length()) ? 1 : 0);
    }
    if (chance(3)) {
      long bytes = (long) below(1 << 30) << 34 ^ (long) below(1 << 30) << 12 ^ below(1 << 12);
      int n = below(12) - 1;
      same("put " + bytes + " " + n, () -> desk.put(bytes, n) ? 1 : 0, () -> model.put(bytes, n) ? 1 : 0);
    }
  }

  private void command() {
    int script = chance(3) ? below(12) - 2 : below(8);
    int command = chance(3) ? below(14) - 2 : chance(40) ? below(2) : below(9);
    int k = chance(10) ? below(80) - 10 : command == 8 ? below(60) : below(100) < 75 ? 0 : below(3);
    same("command " + script + " " + command + " " + k,
        () -> desk.command(script, command, k) ? 1 : 0, () -> model.command(script, command, k) ? 1 : 0);
  }

  private void define() {
    if (model.look(1) > 0 && chance(50)) {
      read();
    }
    put(expression());
    int script = chance(3) ? below(12) - 2 : below(8);
    same("define " + script, () -> desk.define(script), () -> model.define(script));
  }

  private String expression() {
    if (tame && model.look(3) < TAME.length && chance(95)) {
      return TAME[model.look(3)];
    }
    if (chance(30)) {
      return pick("put {i}", "add {d}", "is {w}", "say {s}", "{i} {i}", "put/add {i}", "big {i}", "{i}", "{w}", "{d}", "{s}", "x {w} {i}", "a(b)c");
    }
    if (chance(20)) {
      return chars("ab/(){}\\ idws", 12);
    }
    StringBuilder out = new StringBuilder();
    for (int n = 1 + below(6); n > 0; n--) {
      out.append(pick("{i}", "{d}", "{w}", "{s}", "{i}", "{w}", "(a)", "(ab)", "(a b)", "a", "b", "ab", "a/b", "a/ab", "ab/a", " ", " ", "\\(", "1", "-", "/", "\\ ", "\""));
    }
    return out.toString();
  }

  private String tags() {
    if (chance(20)) {
      return chars("abc!&|() q", chance(10) ? 45 : 8);
    }
    String one = pick("a", "b", "c", "!a", "!b", "!c", "p", "a|b", "!a&b", "(a)", "(a|c)", "!(a&b)", "");
    return chance(50) ? one : one + pick("&", "|", " & ", " | ") + pick("a", "!b", "(c|!a)", "!!a", "!(a|b)");
  }

  private void hook() {
    put(tags());
    boolean before = chance(50);
    int script = chance(3) ? below(12) - 2 : below(8);
    same("hook " + before + " " + script, () -> desk.hook(before, script), () -> model.hook(before, script));
  }

  private void filter() {
    put(chance(50) ? "" : tags());
    same("filter", desk::filter, model::filter);
  }

  private void read() {
    put(chance(5) ? chars("FRBSEG:|@ab#\n \n", 120) : story());
    same("read", desk::read, model::read);
    for (int k = 0; k < model.look(7) && k < 3; k++) {
      int which = chance(20) ? below(25) - 2 : k;
      int what = chance(10) ? below(5) - 1 : below(2);
      same("error " + which + " " + what, () -> desk.error(which, what), () -> model.error(which, what));
    }
  }

  private String story() {
    boolean other = chance(15);
    int slips = chance(70) ? 0 : 4;
    StringBuilder out = new StringBuilder(other ? "#1\n" : "");
    int most = 100 + below(400);
    tagged(out, 20);
    out.append(other ? "P:" : "F:").append(chars("ab ", 4)).append('\n');
    background(out, other);
    while (out.length() < most) {
      if (chance(slips)) {
        out.append(pick("S:", "R:", "E:", "B:", "F:", "G a", "|a|", "||", "|", "x", "@a", "@z", "@a b", "|1|2|3|4|5|", "")).append('\n');
      }
      if (chance(15)) {
        tagged(out, 40);
        out.append(other ? "Q:" : "R:").append('\n');
        background(out, other);
      }
      scenario(out, other);
    }
    return out.length() > 480 ? out.substring(0, chance(50) ? out.lastIndexOf("\n", 480) : 480) : out.toString();
  }

  private void tagged(StringBuilder out, int percent) {
    while (chance(percent)) {
      out.append(pick("@a", "@b", "@c", "@p", "@a @b", "@c  @b @a", " @p ")).append('\n').append(chance(20) ? "\n" : "");
    }
  }

  private void background(StringBuilder out, boolean other) {
    if (chance(30)) {
      out.append(other ? "H:" : "B:").append('\n');
      steps(out, other, below(3));
    }
  }

  private void scenario(StringBuilder out, boolean other) {
    tagged(out, 40);
    out.append(other ? "C:" : "S:").append(chance(10) ? "\nx\n" : "\n");
    steps(out, other, below(4));
    while (chance(30)) {
      tagged(out, 20);
      out.append(other ? "X:" : "E:").append('\n');
      int width = 1 + below(3);
      row(out, width, new String[] {"n", "m", "", "n", "n>a", "a b"});
      for (int n = below(4); n > 0; n--) {
        row(out, width, new String[] {"1", "-2", "ab", "", "<n>", "999999999", "x y", "1.5", "a<", "0123456789012345678901234567890123456789"});
      }
    }
  }

  private void row(StringBuilder out, int width, String[] cells) {
    out.append(chance(20) ? " |" : "|");
    for (int c = 0; c < width; c++) {
      out.append(chance(10) ? " " : "").append(pick(cells)).append(chance(10) ? " " : "").append('|');
    }
    out.append('\n');
  }

  private void steps(StringBuilder out, boolean other, int count) {
    for (int n = 0; n < count; n++) {
      out.append(other ? pick("D", "N", "Z", "U", "*") : pick("G", "W", "T", "A", "*")).append(' ').append(stepText()).append('\n');
      if (chance(20)) {
        int width = 1 + below(3);
        for (int r = 1 + below(2); r > 0; r--) {
          row(out, width, new String[] {"1", "-20", "x", "", "<n>", "<m>", "999999999", "1.5", "-", "1234567890", "<>"});
        }
      }
    }
  }

  private String stepText() {
    if (tame && chance(90)) {
      return pick("put <n>", "put 5", "put -999999999", "add 1.5", "add -0.125", "is <n>", "say \"a b\"", "say \"\"", "2 3", "-7 -7", "<n> 4",
          "big 999999999", "x <m> 7", "abc", "ac", "q-r", "sum", "total", "wait a long while", "wait a while", "go on");
    }
    if (chance(50)) {
      return pick("put 5", "put -3", "add 1.5", "is ab", "say \"a b\"", "say \"\"", "1 2", "put <n>", "<n> <m>", "<n>", "big 999999999",
          "x <m> 7", "add <n>", "<>", "<n>a>", "<a b>", "abc", "ac", "5", "-0.25", "\"q\"", "<n><n>");
    }
    return "a" + chars("aab 11.-\"<n>", chance(5) ? 70 : 8);
  }

  private void lookAtRun() {
    int k = chance(10) ? below(70) - 3 : below(4);
    for (int what = 0; what < 4; what++) {
      int which = chance(3) ? what - 2 : chance(3) ? what + 3 : what;
      same("event " + k + " " + which, () -> desk.event(k, which), () -> model.event(k, which));
    }
    int worker = chance(5) ? below(7) - 2 : below(3);
    same("world " + worker, () -> bits(() -> desk.world(worker)), () -> bits(() -> model.world(worker)));
  }

  /** A number told by one that differs for different ones, as far as the runs have them; -0.0 is not 0.0. */
  private static int bits(DoubleSupplier number) {
    return Double.hashCode(number.getAsDouble());
  }

  private void lookAtCases() {
    int story = chance(5) ? below(30) - 3 : below(Math.max(1, model.look(2)));
    int step = chance(5) ? below(40) - 4 : below(4);
    int what = chance(10) ? below(14) - 3 : below(5);
    same("story " + story + " " + what, () -> desk.story(story, what), () -> model.story(story, what));
    int about = chance(50) ? below(6) - 1 : 98 + below(chance(20) ? 64 : 12);
    same("step " + story + " " + step + " " + about, () -> desk.step(story, step, about), () -> model.step(story, step, about));
    int k = below(5) - 1;
    same("argument " + story + " " + step + " " + k, () -> desk.argument(story, step, k), () -> model.argument(story, step, k));
    int r = below(4) - 1;
    int c = below(4) - 1;
    int i = chance(20) ? below(64) - 1 : below(4);
    same("cell " + story + " " + step + " " + r + " " + c + " " + i,
        () -> desk.cell(story, step, r, c, i), () -> model.cell(story, step, r, c, i));
    int look = chance(5) ? below(12) - 2 : below(8);
    same("look " + look, () -> desk.look(look), () -> model.look(look));
  }
}
