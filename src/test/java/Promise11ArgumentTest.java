/** Promise 11: argument tells where an argument of a BOUND step begins and how long it is. */
public final class Promise11ArgumentTest {
  public static void main(String[] args) {
    Check t = new Check();
    places(t);
    firstWay(t);
    refusals(t);
    t.end();
  }

  /** The arguments as begin times 100 plus length, in their order; behind them there is none. */
  private static void due(Check t, String expression, String text, int... places) {
    StoryDesk x = t.told("F:\nS:\nG " + text);
    t.define(x, expression, 0);
    for (int k = 0; k < places.length; k++) {
      t.is("argument " + k + " of " + expression + " in " + text, x.argument(0, 0, k), places[k]);
    }
    t.outOfBounds("behind the last of " + expression, () -> x.argument(0, 0, places.length));
    t.outOfBounds("before the first of " + expression, () -> x.argument(0, 0, -1));
  }

  private static void places(Check t) {
    due(t, "abc", "abc");
    due(t, "{i}", "12", 2);
    due(t, "{i}", "-12", 3);
    due(t, "a {i} b", "a 12 b", 202);
    due(t, "{d}", "-1.25", 5);
    due(t, "x{w}", "xab", 102);
    due(t, "{s}", "\"a b\"", 103);
    due(t, "{s}", "\"\"", 100);
    due(t, "x {s} {s}", "x \"a\" \"\"", 301, 700);
    due(t, "{i} {d} {w} {s} {i} {d}", "1 2.5 ab \"c d\" -6 -7.125", 1, 203, 602, 1003, 1502, 1806);
    due(t, "{w}", "a".repeat(60), 60);
    due(t, "{w}{w}", "a".repeat(60), 59, 5901);
    due(t, "(x){w}", "y", 1);
    due(t, "a".repeat(57) + "{i}", "a".repeat(57) + "123", 5703);
  }

  private static void firstWay(Check t) {
    due(t, "{i}{i}", "12345", 4, 401);
    due(t, "{i}{i}", "1234567890", 9, 901);
    due(t, "{i}{i}", "12345678901", 9, 902);
    due(t, "{i}{i}", "1-2", 1, 102);
    due(t, "{i}{i}{i}", "1234", 2, 201, 301);
    due(t, "{w}{w}{i}", "a12", 1, 101, 201);
    due(t, "{w}{i}", "a-1", 2, 201);
    due(t, "{d}{i}", "1.2345", 5, 501);
    due(t, "{d}{i}", "1.23-4", 4, 402);
    due(t, "{d}{d}", "1.2345.5", 5, 503);
    due(t, "{i}{d}", "1234.5", 3, 303);
    due(t, "{i}.{i}", "1.2", 1, 201);
    due(t, "{w}b{w}", "abbb", 2, 301);
    due(t, "(a){w}", "aa", 101);
    due(t, "(a){w}", "a", 1);
    due(t, "(a)(ab){w}", "abc", 102);
    due(t, "(a)b{w}", "abc", 201);
    due(t, "a/ab{w}", "abc", 102);
    due(t, "ab/a{w}", "abc", 201);
    due(t, "ab/a{w}", "ab", 101);
    due(t, "a/ab{i}", "ab1", 201);
    due(t, "{w}(x)", "axx", 3);
    due(t, "{w}(x)y", "axxy", 3);
    due(t, "(x){i}(1)", "x11", 102);
    due(t, "{s}{w}", "\"a\"\"b\"", 101, 303);
    due(t, "{w}{s}", "x\"a\"", 1, 201);
    due(t, "{w} {w}", "ab cd", 2, 302);
    due(t, "a/b/ab(b){w}", "abcd", 202);
    due(t, "a/b/ab(c){w}", "abcd", 103);
  }

  private static void refusals(Check t) {
    StoryDesk x = new StoryDesk();
    t.outOfBounds("without cases", () -> x.argument(0, 0, 0));
    t.read(x, "F:\nS:\nG 1\nG a\nG x\nS:");
    t.unsupported("undefined", () -> x.argument(0, 0, 0));
    t.unsupported("undefined comes before the argument", () -> x.argument(0, 0, -1));
    t.define(x, "{i}", 0);
    t.define(x, "a", 0);
    t.define(x, "{i}(x)x", 0);
    t.define(x, "{w}x", 0);
    t.define(x, "x", 0);
    t.define(x, "x(y)", 0);
    t.is("bound", x.argument(0, 0, 0), 1);
    t.outOfBounds("no such argument", () -> x.argument(0, 0, 1));
    t.outOfBounds("no such argument", () -> x.argument(0, 0, Integer.MAX_VALUE));
    t.outOfBounds("no such argument", () -> x.argument(0, 0, Integer.MIN_VALUE));
    t.outOfBounds("no argument at all", () -> x.argument(0, 1, 0));
    t.unsupported("ambiguous", () -> x.argument(0, 2, 0));
    int[][] wrong = {{-1, 0}, {2, 0}, {0, -1}, {0, 3}, {1, 0}, {Integer.MAX_VALUE, 0}, {0, Integer.MIN_VALUE}};
    for (int[] place : wrong) {
      t.outOfBounds("no such step", () -> x.argument(place[0], place[1], 0));
    }
    StoryDesk y = t.told("F:\nS:\nG <a>\nE:\n|a|\n|5|\n|b 77|");
    t.define(y, "b {i}", 0);
    t.unsupported("undefined with the first ROW", () -> y.argument(0, 0, 0));
    t.is("bound with the second", y.argument(1, 0, 0), 202);
  }
}
