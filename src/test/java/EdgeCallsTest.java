/** The edges of the calls, promises 1 to 8 and 13 to 17; those that tell of cases have a test of their own. */
public final class EdgeCallsTest {
  private static final Edge T = new Edge();
  private static final int[] FAR = {Integer.MAX_VALUE, Integer.MIN_VALUE};

  public static void main(String[] args) {
    aNewObject();
    put();
    read();
    error();
    define();
    hook();
    filter();
    command();
    start();
    go();
    event();
    world();
    look();
    T.end();
  }

  private static void aNewObject() {
    T.sentence("No text, no cases, no definitions, hooks and commands, no run.", () -> {
      StoryDesk x = T.desk();
      for (int what = 0; what < 8; what++) {
        T.is("look " + what, x.look(what), 0);
      }
      T.outOfBounds("no case", () -> x.story(0, 0));
      T.outOfBounds("no error", () -> x.error(0, 0));
      T.is("no run", x.go(1), 0);
      T.is("no event", x.event(0, 0), -1);
      T.is("no world", x.world(0), 0.0);
      T.is("the first definition", T.define(x, "a", 0), 0);
      T.is("the first hook", T.hook(x, true, "", 1), 0);
      T.read(x, "F:\nS:\nG a");
      T.is("no commands", T.run(x, 1), "0110 1000 2000 3000 4000 5000");
      T.script(x, 0, 6, 0, 6, 0, 6, 0, 6, 0);
      T.is("and nothing of another object", T.desk().look(3), 0);
    });
  }

  private static void put() {
    T.sentence("Appends the lowest n bytes of a number, the highest of them first, to the text: true", () -> {
      StoryDesk x = T.desk();
      T.yes("8", x.put(Check.bytes("F:\nS:\nG "), 8));
      T.yes("7", x.put(0xFF_00000000000000L | Check.bytes("abcdefg"), 7));
      T.yes("2 of more", x.put(0xFFFF_FFFF_0000_6869L, 2));
      T.yes("1 of more", x.put(0x0102_0304_0506_076AL, 1));
      T.is("length", x.look(1), 18);
      x.read();
      T.is("in order", T.stepText(x, 0, 0), "abcdefghij");
    });
    T.sentence("false (refused) if n is not 1 .. 8", () -> {
      for (int n = 1; n <= 8; n++) {
        StoryDesk x = T.desk();
        T.yes("n " + n, x.put(0x6161616161616161L, n));
        T.is("length", x.look(1), n);
      }
      StoryDesk x = T.desk();
      for (int n : new int[] {0, -1, -8, 9, 16, 264, Integer.MAX_VALUE, Integer.MIN_VALUE}) {
        T.no("n " + n, x.put(0x6161616161616161L, n));
      }
      T.is("nothing", x.look(1), 0);
    });
    T.sentence("one is no character", () -> {
      StoryDesk x = T.desk();
      for (int place = 0; place < 8; place++) {
        long others = 0x6161616161616161L & ~(255L << 8 * place);
        for (long one : new long[] {0, 9, 11, 31, 127, 128, 255}) {
          T.no("no character " + one + " at " + place, x.put(others | one << 8 * place, 8));
        }
        T.is("nothing", x.look(1), 0);
        T.is("it is passed over above the lowest n", x.put(others, place) ? 1 : 0, place > 0 ? 1 : 0);
        x.read();
      }
    });
    T.sentence("or there is no room for all.", () -> {
      StoryDesk x = T.filled(473);
      T.no("8 of 7", x.put(0x6161616161616161L, 8));
      T.is("nothing", x.look(1), 473);
      T.yes("7 of 7", x.put(0x61616161616161L, 7));
      T.no("1 of 0", x.put(0x61, 1));
      T.is("full", x.look(1), 480);
      x.read();
      T.yes("room again", x.put(0x61, 1));
    });
  }

  private static void read() {
    T.sentence("READS the text, which is empty then", () -> {
      StoryDesk x = T.desk();
      T.put(x, "F:\nS:");
      T.is("no errors", x.read(), 0);
      T.is("empty", x.look(1), 0);
      T.put(x, "x");
      T.is("with errors", x.read(), 2);
      T.is("empty", x.look(1), 0);
      T.is("an empty text", x.read(), 1);
    });
    T.sentence("how many errors (at most 20 are counted)", () -> {
      for (int lines = 18; lines <= 22; lines++) {
        StoryDesk x = T.desk();
        T.is("errors", T.read(x, "F:" + "\nE:".repeat(lines)), Math.min(20, lines));
        T.is("look", x.look(7), Math.min(20, lines));
      }
      T.is("with that of the end", T.read(T.desk(), "x" + "\nx".repeat(18)), 20);
      T.is("or not", T.read(T.desk(), "x" + "\nx".repeat(19)), 20);
      T.is("a full text of them", T.read(T.desk(), "x\n".repeat(240)), 20);
    });
    T.sentence("the cases become those of it, with errors there are none.", () -> {
      StoryDesk x = T.told("F:\nS:\nG a\nS:\nS:");
      T.is("three", x.look(2), 3);
      T.read(x, "F:\nS:\nG b");
      T.is("one", x.look(2), 1);
      T.is("it is the new one", T.stepText(x, 0, 0), "b");
      T.put(x, "F:\nS:\nG c\nS:\nS:");
      T.is("a text that is not yet read", T.stepText(x, 0, 0), "b");
      T.is("no errors", x.read(), 0);
      T.read(x, "F:\nS:\nx\nS:\nG a\nx");
      T.is("none", x.look(2), 0);
      T.outOfBounds("no case", () -> x.story(0, 0));
      T.outOfBounds("no step", () -> x.step(0, 0, 0));
    });
    T.sentence("IllegalStateException: a run is under way.", () -> {
      StoryDesk x = T.told("F:\nS:\nS:");
      x.start(1);
      T.wrongState("under way", x::read);
      x.go(3);
      T.wrongState("still under way", x::read);
      T.is("the cases stay", x.look(2), 2);
      x.go(1);
      T.is("over", x.read(), 1);
    });
  }

  private static void error() {
    T.sentence("Line (what = 0) or number (1) of the k-th error of the latest reading.", () -> {
      StoryDesk x = T.desk();
      T.read(x, "F:\nE:\n@q\n\n@a");
      T.is("lines", x.error(0, 0) * 100 + x.error(1, 0) * 10 + x.error(2, 0), 236);
      T.is("numbers", x.error(0, 1) * 100 + x.error(1, 1) * 10 + x.error(2, 1), 127);
      T.read(x, "F:\n\nE:");
      T.is("the latest reading", x.error(0, 0) * 10 + x.error(0, 1), 31);
      T.outOfBounds("none of an older one", () -> x.error(1, 0));
    });
    T.sentence("IndexOutOfBoundsException: no such error or what.", () -> {
      StoryDesk x = T.desk();
      T.outOfBounds("no reading", () -> x.error(0, 0));
      T.read(x, "F:\nE:\nE:");
      for (int k : new int[] {-1, 2, 20, FAR[0], FAR[1]}) {
        T.outOfBounds("k " + k, () -> x.error(k, 0));
        T.outOfBounds("k " + k, () -> x.error(k, 1));
      }
      for (int what : new int[] {-1, 2, FAR[0], FAR[1]}) {
        T.outOfBounds("what " + what, () -> x.error(0, what));
      }
      T.is("the last one", x.error(1, 0), 3);
      T.read(x, "F:");
      T.outOfBounds("a reading without errors", () -> x.error(0, 0));
    });
  }

  private static void define() {
    T.sentence("The text becomes an expression, and is empty then in any case: the number of the definition.", () -> {
      StoryDesk x = T.desk();
      T.is("number", T.define(x, "a", 0), 0);
      T.is("empty", x.look(1), 0);
      T.is("the next number", T.define(x, "a", 7), 1);
      T.put(x, "(");
      T.wrongArgument("not well formed", () -> x.define(0));
      T.is("empty", x.look(1), 0);
      T.put(x, "b");
      T.wrongArgument("no such script", () -> x.define(8));
      T.is("empty", x.look(1), 0);
      T.is("two", x.look(3), 2);
      T.is("refused ones have no number", T.define(x, "b", 0), 2);
    });
    T.sentence("IllegalArgumentException: it is not well formed, or there is no such script", () -> {
      StoryDesk x = T.desk();
      T.wrongArgument("an empty text", () -> x.define(0));
      T.put(x, "a".repeat(61));
      T.wrongArgument("a long text", () -> x.define(0));
      for (int script : new int[] {-1, 8, FAR[0], FAR[1]}) {
        T.put(x, "a");
        T.wrongArgument("script " + script, () -> x.define(script));
      }
      T.is("none", x.look(3), 0);
    });
    T.sentence("else UnsupportedOperationException: twelve are there.", () -> {
      StoryDesk x = T.told("F:\nS:\nG a\nG b");
      for (int i = 0; i < 12; i++) {
        T.is("definition", T.define(x, i == 11 ? "b" : "c", i % 8), i);
      }
      T.wrongArgument("not well formed comes before it", () -> x.define(0));
      T.put(x, "a");
      T.wrongArgument("no such script comes before it", () -> x.define(-1));
      T.put(x, "a");
      T.unsupported("a thirteenth", () -> x.define(0));
      T.is("empty, too", x.look(1), 0);
      T.is("twelve", x.look(3), 12);
      T.is("none is another", x.step(0, 0, 3) * 10 + x.step(0, 1, 3), 1);
    });
    T.sentence("IllegalStateException: a run is under way; else IllegalArgumentException: it is not well formed", () -> {
      StoryDesk x = T.told("F:\nS:\nG a");
      x.start(1);
      T.wrongState("an empty text", () -> x.define(0));
      T.put(x, "a");
      T.wrongState("a text", () -> x.define(0));
      T.wrongState("no such script", () -> x.define(8));
      T.is("none", x.look(3), 0);
      x.go(40);
      T.is("over", x.define(0), 0);
    });
  }

  private static void hook() {
    T.sentence("The text becomes a hook's tag expression, and is empty then in any case: its number.", () -> {
      StoryDesk x = T.desk();
      T.is("an empty text", x.hook(true, 0), 0);
      T.is("a text", T.hook(x, false, "a", 7), 1);
      T.is("empty", x.look(1), 0);
      T.put(x, "(");
      T.wrongArgument("no tag expression", () -> x.hook(true, 0));
      T.is("empty", x.look(1), 0);
      T.put(x, "a");
      T.wrongArgument("no such script", () -> x.hook(false, 8));
      T.is("empty", x.look(1), 0);
      T.is("two", x.look(4), 2);
      T.is("refused ones have no number", T.hook(x, true, "a", 0), 2);
    });
    T.sentence("IllegalArgumentException: it is no tag expression, or no such script", () -> {
      StoryDesk x = T.desk();
      T.put(x, "a" + "|a".repeat(20));
      T.wrongArgument("a long text", () -> x.hook(true, 0));
      T.put(x, "q");
      T.wrongArgument("no tag", () -> x.hook(true, 0));
      for (int script : new int[] {-1, 8, FAR[0], FAR[1]}) {
        T.wrongArgument("script " + script, () -> x.hook(true, script));
      }
      T.is("none", x.look(4), 0);
    });
    T.sentence("else UnsupportedOperationException: eight are there.", () -> {
      StoryDesk x = T.told("F:\nS:");
      T.script(x, 1, 6, 0);
      for (int i = 0; i < 8; i++) {
        T.is("hook", T.hook(x, true, i == 7 ? "" : "a", 0), i);
      }
      T.put(x, "a a");
      T.wrongArgument("no tag expression comes before it", () -> x.hook(true, 0));
      T.wrongArgument("no such script comes before it", () -> x.hook(true, -1));
      T.put(x, "!a");
      T.unsupported("a ninth", () -> x.hook(true, 1));
      T.is("empty, too", x.look(1), 0);
      T.is("eight", x.look(4), 8);
      T.is("none is another", T.run(x, 1), "0110 1000 2070 4000 5000");
    });
    T.sentence("IllegalStateException: a run is under way; else IllegalArgumentException: it is no tag expression, or no such script", () -> {
      StoryDesk x = T.told("F:\nS:");
      x.start(1);
      T.wrongState("an empty text", () -> x.hook(true, 0));
      T.wrongState("no such script", () -> x.hook(true, -1));
      T.put(x, "(");
      T.wrongState("no tag expression", () -> x.hook(true, 0));
      T.is("none", x.look(4), 0);
      x.go(40);
      T.wrongArgument("over", () -> x.hook(true, 0));
      T.is("over", x.hook(true, 0), 0);
    });
  }

  private static void filter() {
    T.sentence("The text becomes the FILTER, and is empty then in any case: how many cases fulfil it.", () -> {
      StoryDesk x = T.desk();
      T.is("without cases", T.filter(x, "!a"), 0);
      T.read(x, "F:\n@a\nS:\nS:\n@a @p\nS:");
      T.is("it stays over readings", x.start(1), 1);
      x.go(40);
      T.is("an empty text", x.filter(), 3);
      T.is("a", T.filter(x, "a"), 2);
      T.is("empty", x.look(1), 0);
      T.is("p", T.filter(x, "p"), 1);
      T.is("none", T.filter(x, "b"), 0);
      T.put(x, "a b");
      T.wrongArgument("no tag expression", x::filter);
      T.is("empty", x.look(1), 0);
    });
    T.sentence("IllegalArgumentException: it is no tag expression (the old one stays).", () -> {
      StoryDesk x = T.told("F:\n@a\nS:\nS:\nS:");
      for (String text : new String[] {"(!a", "q", "!a&", "!a" + " ".repeat(39), "!a!a"}) {
        T.put(x, text);
        T.wrongArgument(text, x::filter);
        T.is("at first an empty one stays", x.start(1), 3);
        x.go(40);
      }
      T.is("a", T.filter(x, "a"), 1);
      for (String text : new String[] {"(!a", "q", "!a&", "!a" + " ".repeat(39), "!a!a"}) {
        T.put(x, text);
        T.wrongArgument(text, x::filter);
        T.is("a stays", x.start(1), 1);
        x.go(40);
      }
    });
    T.sentence("IllegalStateException: a run is under way; else IllegalArgumentException: it is no tag expression", () -> {
      StoryDesk x = T.told("F:\n@a\nS:\nS:");
      x.start(1);
      T.wrongState("an empty text", x::filter);
      T.put(x, "a");
      T.wrongState("a text", x::filter);
      x.go(40);
      T.is("the old one stayed", x.start(1), 2);
      x.go(40);
      T.is("and the text", x.filter(), 1);
    });
  }

  private static void command() {
    T.sentence("Appends a command to a script: true", () -> {
      StoryDesk x = T.desk();
      for (int command = 0; command <= 8; command++) {
        T.yes("command " + command, x.command(command % 8, command, FAR[command % 2]));
      }
    });
    T.sentence("false (refused) if there is no such script or command, it has four, or a run is under way.", () -> {
      StoryDesk x = T.told("F:\nS:\nG a");
      T.define(x, "a", 0);
      for (int script : new int[] {-1, 8, FAR[0], FAR[1]}) {
        T.no("script " + script, x.command(script, 6, 0));
      }
      for (int command : new int[] {-1, 9, FAR[0], FAR[1]}) {
        T.no("command " + command, x.command(0, command, 0));
      }
      x.start(1);
      T.no("under way", x.command(0, 6, 0));
      x.go(40);
      T.is("none of them is there", T.run(x, 1), "0110 1000 3000 4000 5000");
      T.script(x, 0, 8, 1, 8, 2, 8, 3, 8, 4);
      T.no("it has four", x.command(0, 6, 0));
      T.is("four are done", T.run(x, 1), "0110 1000 3000 4000 50100");
      T.yes("another script has none", x.command(1, 6, 0));
    });
  }

  private static void start() {
    T.sentence("Begins a run: how many cases there are in it.", () -> {
      StoryDesk x = T.told("F:\n@a\nS:\nS:\nE:\n|n|\n|1|\n|2|");
      T.is("three", x.start(1), 3);
      T.is("begun", x.look(0), 1);
      x.go(40);
      T.filter(x, "a");
      T.is("one", x.start(1), 1);
      x.go(40);
      T.filter(x, "b");
      T.is("none", x.start(1), 0);
      T.is("over at once", x.look(0), 0);
    });
    T.sentence("IllegalStateException: one is under way; else IllegalArgumentException: workers is not 1 .. 3.", () -> {
      StoryDesk x = T.told("F:\nS:");
      for (int workers : new int[] {0, 4, -1, FAR[0], FAR[1]}) {
        T.wrongArgument("workers " + workers, () -> x.start(workers));
      }
      T.is("none began", x.look(0) + x.look(6), 0);
      for (int workers = 1; workers <= 3; workers++) {
        T.is("workers " + workers, x.start(workers), 1);
        T.wrongState("under way", () -> x.start(1));
        T.wrongState("nor no workers", () -> x.start(0));
        T.is("one move", x.go(1), 1);
        T.wrongState("under way", () -> x.start(4));
        T.is("the last one", x.go(1), 1);
      }
      T.wrongArgument("without cases, too", () -> T.desk().start(0));
    });
  }

  private static void go() {
    T.sentence("Makes up to n moves (1 .. 40), as long as a run is under way: how many (0 without a run)", () -> {
      StoryDesk x = T.told("F:\nS:" + "\nG a".repeat(30) + "\nE:\n|n|\n|1|\n|2|");
      T.is("without a run", x.go(1) + x.go(40), 0);
      x.start(1);
      T.is("1", x.go(1), 1);
      T.is("40", x.go(40), 40);
      T.is("events", x.look(6), 42);
      T.is("22", x.go(22), 22);
      T.is("up to the end", x.go(40), 1);
      T.is("behind it", x.go(1), 0);
      x.start(1);
      x.go(40);
      T.is("just so many", x.go(24), 24);
      T.is("over", x.look(0), 0);
    });
    T.sentence("-1 (refused) for another n.", () -> {
      StoryDesk x = T.told("F:\nS:\nS:");
      for (int n : new int[] {0, 41, -1, FAR[0], FAR[1]}) {
        T.is("without a run: " + n, x.go(n), -1);
      }
      x.start(1);
      for (int n : new int[] {0, 41, -1, FAR[0], FAR[1]}) {
        T.is("under way: " + n, x.go(n), -1);
      }
      T.is("no move was made", x.go(40), 4);
    });
    T.sentence("(A run without cases is over with start().)", () -> {
      StoryDesk x = T.desk();
      T.is("none", x.start(3), 0);
      T.is("over", x.look(0), 0);
      T.is("both events", T.events(x, 2), "0030 5000");
      T.is("no more of them", x.look(6), 2);
      T.is("no move", x.go(40), 0);
      T.is("another one", x.start(1), 0);
      T.is("the text can be read", T.read(x, "F:\nS:"), 0);
    });
  }

  private static void event() {
    T.sentence("Of the k-th event before the latest one (0: the latest): what it is (what = 0) and what it tells (1, 2, 3; 0 behind that)", () -> {
      StoryDesk x = T.told("F:\nS:\nS:\nG u");
      T.script(x, 0, 7, 0);
      T.hook(x, false, "", 0);
      T.is("all of them", T.run(x, 2), "0220 1000 1110 2002 3103 4020 2102 4131 5300");
      T.is("the latest", x.event(0, 0), 5);
      T.is("the one before it", x.event(1, 0) * 1000 + x.event(1, 1) * 100 + x.event(1, 2) * 10 + x.event(1, 3), 4131);
      T.is("0 behind that", x.event(0, 3) + x.event(8, 3) + x.event(7, 3) + x.event(6, 3), 0);
    });
    T.sentence("-1 if there is none such, or no such what.", () -> {
      StoryDesk x = T.desk();
      T.is("none at all", x.event(0, 0), -1);
      x.start(1);
      for (int k : new int[] {-1, 2, 63, 64, FAR[0], FAR[1]}) {
        T.is("k " + k, x.event(k, 0), -1);
      }
      for (int what : new int[] {-1, 4, FAR[0], FAR[1]}) {
        T.is("what " + what, x.event(0, what), -1);
      }
      T.is("the first one", x.event(1, 2), 1);
      for (int i = 0; i < 31; i++) {
        x.start(1);
      }
      T.is("64 of them", x.event(63, 2), 1);
      x.start(2);
      T.is("66 of them", x.event(63, 2) * 10 + x.event(1, 2), 12);
      T.is("none before the 64 latest", x.event(64, 0), -1);
      T.is("none before the 64 latest", x.event(65, 0), -1);
    });
  }

  private static void world() {
    T.sentence("NUMBER of the world of a worker's case; 0 without one or without the worker.", () -> {
      StoryDesk x = T.told("F:\nS:\nG 1.5\nG 2.5\nS:\nG -7.5");
      T.define(x, "{d}", 0);
      T.script(x, 0, 1, 0);
      worlds(x, 0, 0, 0);
      x.start(3);
      worlds(x, 0, 0, 0);
      double[][] due = {{0, 0}, {0, 0}, {1.5, 0}, {1.5, -7.5}, {4, -7.5}, {4, 0}, {0, 0}};
      for (double[] one : due) {
        T.is("a move", x.go(1), 1);
        worlds(x, one[0], one[1], 0);
      }
      T.is("over", x.look(0), 0);
      x.start(1);
      x.go(3);
      worlds(x, 4, 0, 0);
      x.go(1);
      worlds(x, 0, 0, 0);
      x.go(2);
      worlds(x, -7.5, 0, 0);
    });
  }

  private static void worlds(StoryDesk x, double... due) {
    for (int worker = 0; worker < due.length; worker++) {
      T.is("world " + worker, x.world(worker), due[worker]);
    }
    for (int worker : new int[] {-1, 3, FAR[0], FAR[1]}) {
      T.is("no worker " + worker, x.world(worker), 0.0);
    }
  }

  private static void look() {
    T.sentence("1 if a run is under way, else 0 (what = 0); characters of the text (1); cases (2); definitions (3); hooks (4); the DIALECT of the latest reading (5); events ever (6); errors of the latest reading (7)", () -> {
      StoryDesk x = T.told("#1\nP:\nC:\n@a\nC:");
      T.define(x, "a", 0);
      T.define(x, "b", 0);
      T.define(x, "c", 0);
      T.hook(x, true, "", 0);
      T.filter(x, "a");
      looks(x, 0, 0, 2, 3, 1, 1, 0, 0);
      x.start(1);
      x.go(1);
      T.put(x, "#1");
      looks(x, 1, 2, 2, 3, 1, 1, 2, 0);
      x.go(40);
      looks(x, 0, 2, 2, 3, 1, 1, 5, 0);
      T.put(x, "1");
      x.read();
      looks(x, 0, 0, 0, 3, 1, 0, 5, 1);
      T.read(x, "#1\nx\nx");
      looks(x, 0, 0, 0, 3, 1, 1, 5, 3);
      T.read(x, "F:");
      looks(x, 0, 0, 0, 3, 1, 0, 5, 0);
    });
    T.sentence("events ever (6)", () -> {
      StoryDesk x = T.desk();
      for (int run = 1; run <= 70; run++) {
        x.start(1);
        T.is("events", x.look(6), 2 * run);
      }
    });
    T.sentence("-1 for another what.", () -> {
      StoryDesk x = T.desk();
      for (int what : new int[] {-1, 8, FAR[0], FAR[1]}) {
        T.is("what " + what, x.look(what), -1);
      }
    });
  }

  private static void looks(StoryDesk x, int... due) {
    for (int what = 0; what < due.length; what++) {
      T.is("look " + what, x.look(what), due[what]);
    }
  }
}
