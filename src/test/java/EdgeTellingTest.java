/** The edges of the calls that tell of cases, promises 9 to 12: story, step, argument and cell. */
public final class EdgeTellingTest {
  private static final Edge T = new Edge();
  private static final int MAX = Integer.MAX_VALUE;
  private static final int MIN = Integer.MIN_VALUE;
  private static final String SIXTY = "0123456789".repeat(6);

  public static void main(String[] args) {
    story();
    status();
    noSuchCase();
    step();
    noSuchStep();
    argument();
    noSuchArgument();
    cell();
    noSuchCell();
    T.end();
  }

  private static void story() {
    T.sentence("Of a case: how many steps it has (what = 0)", () -> {
      StoryDesk x = T.told("F:\nB:\nG a\nS:\nS:\nG b\nS:" + "\nG c".repeat(28));
      T.is("none", x.story(0, 0), 0);
      T.is("two", x.story(1, 0), 2);
      T.is("29", x.story(2, 0), 29);
    });
    T.sentence("its tags as bits, a the lowest one (1)", () -> {
      StoryDesk x = T.told("F:\nS:\n@a\nS:\n@p\nS:\n@b @d\nS:\n@a @b @c @d @e @f @g @h @i @j @k @l @m @n @o @p\nS:");
      T.is("none", x.story(0, 1), 0);
      T.is("a", x.story(1, 1), 1);
      T.is("p", x.story(2, 1), 32768);
      T.is("b and d", x.story(3, 1), 10);
      T.is("all", x.story(4, 1), 65535);
    });
    T.sentence("the line of its SCENARIO (2) and of its ROW of EXAMPLES, 0 without (3)", () -> {
      StoryDesk x = T.told("\nF:\n\nS:\nS:\nG a\n|b|\nE:\n\n|n|\n#\n|1|\n|2|");
      T.is("the first one", x.story(0, 2) * 100 + x.story(0, 3), 400);
      T.is("its ROW", x.story(1, 2) * 100 + x.story(1, 3), 512);
      T.is("its ROW", x.story(2, 2) * 100 + x.story(2, 3), 513);
    });
  }

  private static void status() {
    T.sentence("its STATUS in the latest run, -1 before it is over, or without it (4).", () -> {
      StoryDesk x = T.told("F:\n@a\nS:\nG u\nS:\nS:");
      statuses(x, -1, -1, -1);
      x.start(2);
      statuses(x, -1, -1, -1);
      x.go(3);
      statuses(x, -1, -1, -1);
      x.go(40);
      statuses(x, 3, 0, 0);
      T.filter(x, "!a");
      statuses(x, 3, 0, 0);
      x.start(1);
      statuses(x, -1, -1, -1);
      x.go(40);
      statuses(x, -1, 0, 0);
      T.filter(x, "b");
      x.start(1);
      statuses(x, -1, -1, -1);
      T.filter(x, "");
      x.start(1);
      x.go(40);
      statuses(x, 3, 0, 0);
      T.read(x, "F:\nS:\nS:\nS:");
      statuses(x, -1, -1, -1);
    });
  }

  private static void statuses(StoryDesk x, int... due) {
    for (int story = 0; story < due.length; story++) {
      T.is("status of " + story, x.story(story, 4), due[story]);
    }
  }

  private static void noSuchCase() {
    T.sentence("IndexOutOfBoundsException: no such case or what.", () -> {
      StoryDesk none = T.desk();
      T.outOfBounds("without cases", () -> none.story(0, 0));
      StoryDesk x = T.told("F:\nS:\nS:");
      for (int story : new int[] {-1, 2, 24, MAX, MIN}) {
        for (int what = 0; what <= 4; what++) {
          int asked = what;
          T.outOfBounds("case " + story, () -> x.story(story, asked));
        }
      }
      for (int what : new int[] {-1, 5, 100, MAX, MIN}) {
        T.outOfBounds("what " + what, () -> x.story(0, what));
      }
      T.is("the last case", x.story(1, 2), 3);
      StoryDesk full = T.told("F:\nS:\nE:\n|n|" + "\n|m|".repeat(30));
      T.is("the 24th", full.story(23, 3), 28);
      T.outOfBounds("no 25th", () -> full.story(24, 0));
    });
  }

  private static void step() {
    T.sentence("Of a step of a case: its line (what = 0), how many ROWS its table has (1)", () -> {
      StoryDesk x = T.told("F:\nB:\n\nG a\n|1|\n|2|\nR:\nB:\nG b\nS:\nG c\n|3|\n\n|4|\n|5|\nG d");
      int[][] due = {{4, 2}, {9, 0}, {11, 3}, {16, 0}};
      for (int step = 0; step < due.length; step++) {
        T.is("line", x.step(0, step, 0), due[step][0]);
        T.is("ROWS", x.step(0, step, 1), due[step][1]);
      }
      T.is("40 ROWS", T.told("F:\nS:\nG a" + "\n||".repeat(40)).step(0, 0, 1), 40);
    });
    T.sentence("the definition it is BOUND to, -1 UNDEFINED, -2 AMBIGUOUS (2), how many definitions fit (3)", () -> {
      StoryDesk x = T.told("F:\nS:\nG a\nG b\nG c");
      bound(x, -1, 0, -1, 0, -1, 0);
      T.define(x, "b/c", 0);
      bound(x, -1, 0, 0, 1, 0, 1);
      T.define(x, "a", 0);
      bound(x, 1, 1, 0, 1, 0, 1);
      T.define(x, "c(d)", 0);
      bound(x, 1, 1, 0, 1, -2, 2);
      for (int i = 3; i < 12; i++) {
        T.define(x, "{w}", 0);
      }
      bound(x, -2, 10, -2, 10, -2, 11);
      T.is("all twelve", twelveOf("a").step(0, 0, 3), 12);
      T.is("the last one alone", T.bound("a", "b", "b", "b", "b", "b", "b", "b", "b", "b", "b", "b", "a").step(0, 0, 2), 11);
    });
    T.sentence("character k of its text is what = 100 + k, -1 behind its end (k 0 .. 60).", () -> {
      StoryDesk x = T.told("F:\nS:\nG ab\nG " + SIXTY + "x\nG <>\nE:\n||\n||");
      T.is("the first one", x.step(0, 0, 100), 'a');
      T.is("the last one", x.step(0, 0, 101), 'b');
      T.is("behind it", x.step(0, 0, 102), -1);
      T.is("far behind it", x.step(0, 0, 160), -1);
      T.is("the 60th", x.step(0, 1, 159), '9');
      T.is("behind it", x.step(0, 1, 160), -1);
      T.is("of no characters", x.step(0, 2, 100), -1);
      T.outOfBounds("k 61", () -> x.step(0, 1, 161));
      T.outOfBounds("k -1", () -> x.step(0, 1, 99));
    });
  }

  private static StoryDesk twelveOf(String expression) {
    StoryDesk x = T.bound(expression);
    for (int i = 0; i < 12; i++) {
      T.define(x, expression, 0);
    }
    return x;
  }

  private static void bound(StoryDesk x, int... due) {
    for (int step = 0; step < 3; step++) {
      T.is("bound " + step, x.step(0, step, 2), due[2 * step]);
      T.is("fit " + step, x.step(0, step, 3), due[2 * step + 1]);
    }
  }

  private static void noSuchStep() {
    T.sentence("IndexOutOfBoundsException: no such case, step or what.", () -> {
      StoryDesk none = T.desk();
      T.outOfBounds("without cases", () -> none.step(0, 0, 0));
      StoryDesk x = T.told("F:\nB:\nG a\nS:\nS:\nG b\nG c");
      int[][] wrong = {{-1, 0}, {2, 0}, {MAX, 0}, {MIN, 0}, {0, 0}, {1, -1}, {1, 3}, {1, MAX}, {1, MIN}};
      for (int[] place : wrong) {
        for (int what : new int[] {0, 1, 2, 3, 100, 160}) {
          T.outOfBounds("step " + place[0] + " " + place[1], () -> x.step(place[0], place[1], what));
        }
      }
      for (int what : new int[] {-1, 4, 50, 99, 161, MAX, MIN}) {
        T.outOfBounds("what " + what, () -> x.step(1, 0, what));
      }
      T.is("the last step", x.step(1, 2, 100), 'c');
    });
  }

  private static void argument() {
    T.sentence("Argument k of a step that is BOUND: where it begins in the text (from 0; of {s} behind the \") times 100 plus its length.", () -> {
      StoryDesk x = T.bound("-12 \"a b\" \"\" " + "c".repeat(46), "{i} {s} {s} {w}");
      T.is("the first one", x.argument(0, 0, 0), 3);
      T.is("of {s}", x.argument(0, 0, 1), 503);
      T.is("of no characters", x.argument(0, 0, 2), 1100);
      T.is("the last one", x.argument(0, 0, 3), 1346);
      T.is("all the text", T.bound(SIXTY, "{w}").argument(0, 0, 0), 60);
      StoryDesk y = T.told("F:\nS:\nG <n>1\nE:\n|n|\n|a|\n|bcd|");
      T.define(y, "(a)(bcd){i}", 0);
      T.is("with each ROW", y.argument(0, 0, 0) * 1000 + y.argument(1, 0, 0), 101301);
    });
  }

  private static void noSuchArgument() {
    T.sentence("IndexOutOfBoundsException: no such case or step; else UnsupportedOperationException: it is not BOUND; else IndexOutOfBoundsException: no such argument.", () -> {
      StoryDesk x = T.told("F:\nS:\nG 1\nG u\nG m\nG a\nS:");
      T.define(x, "{i}", 0);
      T.define(x, "m", 0);
      T.define(x, "{w}(b)", 0);
      T.unsupported("two fit", () -> x.argument(0, 0, 0));
      StoryDesk y = T.told("F:\nS:\nG 1\nG u\nG m\nG a\nS:");
      T.define(y, "{i}", 0);
      T.define(y, "m", 0);
      T.define(y, "m(b)", 0);
      T.define(y, "a", 0);
      int[][] wrong = {{-1, 0}, {2, 0}, {MAX, 0}, {MIN, 0}, {1, 0}, {0, -1}, {0, 4}, {0, MAX}, {0, MIN}};
      for (int[] place : wrong) {
        T.outOfBounds("no such step", () -> y.argument(place[0], place[1], 0));
        T.outOfBounds("nor such an argument", () -> y.argument(place[0], place[1], -1));
      }
      for (int k : new int[] {0, -1, 1, MAX, MIN}) {
        T.unsupported("UNDEFINED", () -> y.argument(0, 1, k));
        T.unsupported("AMBIGUOUS", () -> y.argument(0, 2, k));
        T.outOfBounds("without arguments", () -> y.argument(0, 3, k));
      }
      for (int k : new int[] {-1, 1, 6, MAX, MIN}) {
        T.outOfBounds("argument " + k, () -> y.argument(0, 0, k));
      }
      T.is("there is one", y.argument(0, 0, 0), 1);
      StoryDesk none = T.desk();
      T.outOfBounds("without cases", () -> none.argument(0, 0, 0));
    });
  }

  private static void cell() {
    T.sentence("Character i of cell c of ROW r of a step's table, -1 behind its end (i 0 .. 60).", () -> {
      StoryDesk x = T.told("F:\nB:\nG a\n|z|\nS:\nG b\n| ab |  |\n|c|" + SIXTY + "x|\nG d\n|<n>|\nE:\n|n|\n|12|");
      T.is("the first one", x.cell(0, 1, 0, 0, 0), 'a');
      T.is("the last one", x.cell(0, 1, 0, 0, 1), 'b');
      T.is("behind it", x.cell(0, 1, 0, 0, 2), -1);
      T.is("far behind it", x.cell(0, 1, 0, 0, 60), -1);
      T.is("of no characters", x.cell(0, 1, 0, 1, 0), -1);
      T.is("the next ROW", x.cell(0, 1, 1, 0, 0), 'c');
      T.is("the 60th", x.cell(0, 1, 1, 1, 59), '9');
      T.is("behind it", x.cell(0, 1, 1, 1, 60), -1);
      T.is("of the BACKGROUND", x.cell(0, 0, 0, 0, 0), 'z');
      T.is("with what came in", x.cell(0, 2, 0, 0, 1), '2');
      T.is("behind it", x.cell(0, 2, 0, 0, 2), -1);
    });
  }

  private static void noSuchCell() {
    T.sentence("IndexOutOfBoundsException: there is none such.", () -> {
      StoryDesk none = T.desk();
      T.outOfBounds("without cases", () -> none.cell(0, 0, 0, 0, 0));
      StoryDesk x = T.told("F:\nS:\nG a\n|1|2|\n|3|4|\nG b\nG c\n|5|\nS:");
      int[][] wrong = {
        {-1, 0, 0, 0, 0}, {2, 0, 0, 0, 0}, {MAX, 0, 0, 0, 0}, {MIN, 0, 0, 0, 0}, {1, 0, 0, 0, 0},
        {0, -1, 0, 0, 0}, {0, 3, 0, 0, 0}, {0, MAX, 0, 0, 0}, {0, MIN, 0, 0, 0},
        {0, 0, -1, 0, 0}, {0, 0, 2, 0, 0}, {0, 0, MAX, 0, 0}, {0, 0, MIN, 0, 0}, {0, 1, 0, 0, 0}, {0, 2, 1, 0, 0},
        {0, 0, 0, -1, 0}, {0, 0, 0, 2, 0}, {0, 0, 0, MAX, 0}, {0, 0, 0, MIN, 0}, {0, 2, 0, 1, 0},
        {0, 0, 0, 0, -1}, {0, 0, 0, 0, 61}, {0, 0, 0, 0, MAX}, {0, 0, 0, 0, MIN}
      };
      for (int[] at : wrong) {
        T.outOfBounds("no such cell", () -> x.cell(at[0], at[1], at[2], at[3], at[4]));
      }
      T.is("the last one of the first table", x.cell(0, 0, 1, 1, 0), '4');
      StoryDesk four = T.told("F:\nS:\nG a\n|1|2|3|4|");
      T.is("the fourth cell", four.cell(0, 0, 0, 3, 0), '4');
      T.outOfBounds("no fifth", () -> four.cell(0, 0, 0, 4, 0));
      StoryDesk full = T.told("F:\nS:\nG a" + "\n|x|".repeat(40));
      T.is("the 40th ROW", full.cell(0, 0, 39, 0, 0), 'x');
      T.outOfBounds("no 41st", () -> full.cell(0, 0, 40, 0, 0));
    });
  }
}
