/** The edges of SCRIPTS: their COMMANDS, an argument's number, the limits of NUMBER and of waiting. */
public final class EdgeScriptsTest {
  private static final Edge T = new Edge();

  public static void main(String[] args) {
    counts();
    commands();
    tables();
    otherCommands();
    argumentsNumbers();
    missingArguments();
    limits();
    waiting();
    endings();
    T.end();
  }

  private static void counts() {
    T.sentence("SCRIPTS 0 .. 7", () -> {
      StoryDesk x = T.desk();
      T.yes("0", x.command(0, 6, 0));
      T.yes("7", x.command(7, 6, 0));
      T.no("8", x.command(8, 6, 0));
      T.no("-1", x.command(-1, 6, 0));
    });
    T.sentence("have at most 4 COMMANDS with a number k", () -> {
      for (int script = 0; script < 8; script++) {
        StoryDesk x = T.told("F:\nS:\nG 1 20 300");
        T.define(x, "{i} {i} {i}", script);
        T.script(x, script, 1, 0, 1, 1, 1, 2, 1, 0);
        T.no("a fifth", x.command(script, 6, 0));
        x.start(1);
        x.go(2);
        T.is("all four are done", x.world(0), 322);
        T.is("and no fifth", x.event(0, 3), 0);
      }
      T.done("a", "a", "0 0.0 0");
    });
    T.sentence("done in order on the case's WORLD (NUMBER, a double, 0 at first)", () -> {
      T.done("2 3", "{i} {i}", "0 11.0 0", 1, 0, 1, 1, 2, 0, 4, 0);
      T.done("2 3", "{i} {i}", "0 5.0 0", 2, 0, 4, 0, 1, 1, 4, 1);
      T.done("2 3", "{i} {i}", "0 2.0 0", 1, 1, 0, 0);
    });
  }

  private static void commands() {
    T.sentence("0 NUMBER = argument k", () -> {
      T.done("5 7", "{i} {i}", "0 7.0 0", 0, 0, 0, 1);
      T.done("-5", "{i}", "0 -5.0 0", 0, 0);
    });
    T.sentence("1 plus it", () -> {
      T.done("5 7", "{i} {i}", "0 12.0 0", 1, 0, 1, 1);
      T.done("-5", "{i}", "0 -10.0 0", 1, 0, 1, 0);
    });
    T.sentence("2 times it", () -> {
      T.done("5 7", "{i} {i}", "0 35.0 0", 0, 0, 2, 1);
      T.done("-5", "{i}", "0 25.0 0", 0, 0, 2, 0);
      T.done("5", "{i}", "0 0.0 0", 2, 0);
      T.done("-5", "{i}", "0 -0.0 0", 2, 0);
    });
    T.sentence("3 FAILS if NUMBER is not argument k", () -> {
      T.done("5", "{i}", "0 10.0 0", 0, 0, 3, 0, 1, 0);
      T.done("5 6", "{i} {i}", "5 5.0 0", 0, 0, 3, 1, 1, 0);
      T.done("5 5.001", "{i} {d}", "5 5.0 0", 0, 0, 3, 1);
      T.done("5 -5", "{i} {i}", "5 5.0 0", 0, 0, 3, 1);
      T.done("0.5 0.500", "{d} {d}", "0 0.5 0", 0, 0, 3, 1);
      T.done("0", "{i}", "0 0.0 0", 3, 0);
      T.done("-5 0", "{i} {i}", "0 -0.0 0", 2, 0, 3, 1);
    });
    T.sentence("4 plus the length of argument k", () -> {
      T.done("abc", "{w}", "0 3.0 0", 4, 0);
      T.done("-12 1.250 \"a b\" \"\"", "{i} {d} {s} {s}", "0 11.0 0", 4, 0, 4, 1, 4, 2, 4, 3);
      T.done("9 ab", "{i} {w}", "0 11.0 0", 0, 0, 4, 1);
      T.done("-5 \"\"", "{i} {s}", "0 0.0 0", 2, 0, 4, 1);
    });
  }

  private static void tables() {
    T.sentence("5 plus each cell of the table (of all its ROWS, one after the other", () -> {
      T.done("a\n|1|20|300|4000|\n|5|60|700|8000|\n|10000|-1|0|0|", "a", "0 23085.0 0", 5, 0);
      T.done("a\n|1|", "a", "0 2.0 0", 5, 0, 5, 9);
      T.done("a", "a", "0 0.0 0", 5, 0);
      StoryDesk x = T.told("F:\nS:\nG a\n|1|2|3|4|");
      T.is("a table with fewer cells", T.read(x, "F:\nS:\nG a\n|5|\n|6|"), 0);
      T.define(x, "a", 0);
      T.script(x, 0, 5, 0);
      x.start(1);
      x.go(2);
      T.is("nothing of an older one", x.world(0), 11);
    });
    T.sentence("of a hook none)", () -> T.doneByHook("0 7.0 0", 5, 0));
    T.sentence("that is perhaps - and 1 to 9 digits", () -> {
      T.done("a\n|123456789|", "a", "0 1.23456789E8 0", 5, 0);
      T.done("a\n|-123456789|", "a", "0 -1.23456789E8 0", 5, 0);
      T.done("a\n|1234567890|-1234567890|", "a", "0 0.0 0", 5, 0);
      T.done("a\n|-|--1|+1|1-|\n|1.0|1 2|a|/|\n|:|1:|/1|x1|\n|1x||-x|-1-|", "a", "0 0.0 0", 5, 0);
      T.done("a\n|007|-0|", "a", "0 7.0 0", 5, 0);
    });
    T.sentence("plus each cell .. that is perhaps - and 1 to 9 digits: another one leaves NUMBER, also -0.0, as it is", () -> {
      T.done("-5\n|x||-|1.0|\n|1234567890|--1|1-|a 1|", "{i}", "0 -0.0 0", 2, 0, 5, 0);
      T.done("-5", "{i}", "0 -0.0 0", 2, 0, 5, 0);
      T.done("-5\n|x|0|", "{i}", "0 0.0 0", 2, 0, 5, 0);
      T.done("-5\n|-0|x|", "{i}", "0 0.0 0", 2, 0, 5, 0);
    });
  }

  private static void otherCommands() {
    T.sentence("6 FAILS", () -> T.done("a", "a", "5 0.0 0", 6, 0));
    T.sentence("7 is PENDING", () -> T.done("a", "a", "2 0.0 0", 7, 0));
    T.sentence("8 waits k units, if k is above 0.", () -> {
      T.done("a", "a", "0 0.0 1", 8, 1);
      T.done("a", "a", "0 0.0 0", 8, 0);
      T.done("a", "a", "0 0.0 0", 8, -1);
      T.done("a", "a", "0 0.0 0", 8, Integer.MIN_VALUE);
      T.done("a", "a", "0 0.0 7", 8, -5, 8, 3, 8, -9, 8, 4);
    });
  }

  private static void argumentsNumbers() {
    T.sentence("An argument's number, a double: of {i} what it tells", () -> {
      T.done("007", "{i}", "0 7.0 0", 0, 0);
      T.done("-999999999", "{i}", "0 -9.99999999E8 0", 0, 0);
      T.done("999999999", "{i}", "0 9.99999999E8 0", 0, 0);
      T.done("-0", "{i}", "0 0.0 0", 0, 0);
    });
    T.sentence("of {d} all its digits as one int, with its sign, divided by 10, 100 or 1000", () -> {
      T.done("1.5", "{d}", "0 1.5 0", 0, 0);
      T.done("-1.25", "{d}", "0 -1.25 0", 0, 0);
      T.done("-0.125", "{d}", "0 -0.125 0", 0, 0);
      T.done("0.001", "{d}", "0 " + 1 / 1000.0 + " 0", 0, 0);
      T.done("1.50", "{d}", "0 1.5 0", 0, 0);
      T.done("123456.789", "{d}", "0 " + 123456789 / 1000.0 + " 0", 0, 0);
      T.done("-999999.999", "{d}", "0 " + -999999999 / 1000.0 + " 0", 0, 0);
      T.done("-0.00", "{d}", "0 0.0 0", 0, 0);
      T.done("0.1 0.7", "{d} {d}", "0 " + (0.1 + 0.7) + " 0", 0, 0, 1, 1);
      T.done("0.7 1.1", "{d} {d}", "0 " + 0.7 * 1.1 + " 0", 0, 0, 2, 1);
    });
  }

  private static void missingArguments() {
    T.sentence("for another one, or one that is not there, 0 to 3 FAIL", () -> {
      for (int command = 0; command <= 3; command++) {
        T.done("5 7 x", "{w} {i} x", "5 0.0 0", command, 0, 8, 1);
        T.done("\"5\"", "{s}", "5 0.0 0", command, 0, 8, 1);
        T.done("0", "{i}", "5 0.0 0", command, 1, 8, 1);
        T.done("0", "{i}", "5 0.0 0", command, -1, 8, 1);
        T.done("0 0 0 0 0 0", "{i} {i} {i} {i} {i} {i}", "5 0.0 0", command, 6, 8, 1);
        T.done("0", "{i}", "5 0.0 0", command, Integer.MAX_VALUE, 8, 1);
        T.done("0", "{i}", "5 0.0 0", command, Integer.MIN_VALUE, 8, 1);
        T.done("a", "a", "5 0.0 0", command, 0, 8, 1);
      }
      T.done("0 0 0 0 0 5", "{i} {i} {i} {i} {i} {i}", "0 5.0 0", 0, 5);
    });
    T.sentence("4 if it is not there.", () -> {
      T.done("\"\"", "{s}", "0 0.0 1", 4, 0, 8, 1);
      T.done("ab", "{w}", "5 0.0 0", 4, 1, 8, 1);
      T.done("ab", "{w}", "5 0.0 0", 4, -1, 8, 1);
      T.done("ab", "{w}", "5 0.0 0", 4, Integer.MAX_VALUE, 8, 1);
      T.done("a b c d e fg", "{w} {w} {w} {w} {w} {w}", "0 2.0 0", 4, 5);
      T.done("a b c d e fg", "{w} {w} {w} {w} {w} {w}", "5 0.0 0", 4, 6);
      T.done("a", "a", "5 0.0 0", 4, 0, 8, 1);
    });
    T.sentence("the step's arguments (a hook has none)", () -> {
      for (int command = 0; command <= 4; command++) {
        T.doneByHook("5 7.0 0", command, 0, 8, 1);
      }
      T.doneByHook("0 7.0 3", 8, 3);
      T.doneByHook("0 7.0 0");
    });
  }

  private static void limits() {
    T.sentence("The script FAILS, too, as soon as NUMBER is not within -1000000000 .. 1000000000", () -> {
      T.done("999999999 1", "{i} {i}", "0 1.0E9 1", 0, 0, 1, 1, 8, 1);
      T.done("999999999 2", "{i} {i}", "5 1.000000001E9 0", 0, 0, 1, 1, 8, 1);
      T.done("-999999999 -1", "{i} {i}", "0 -1.0E9 1", 0, 0, 1, 1, 8, 1);
      T.done("-999999999 -2", "{i} {i}", "5 -1.000000001E9 0", 0, 0, 1, 1, 8, 1);
      T.done("999999999 1.001", "{i} {d}", "5 " + (999999999 + 1.001) + " 0", 0, 0, 1, 1, 8, 1);
      T.done("-999999999 -1.001", "{i} {d}", "5 " + (-999999999 - 1.001) + " 0", 0, 0, 1, 1, 8, 1);
      T.done("500000000 2", "{i} {i}", "0 1.0E9 1", 0, 0, 2, 1, 8, 1);
      T.done("500000000 -2", "{i} {i}", "0 -1.0E9 1", 0, 0, 2, 1, 8, 1);
      T.done("500000001 2", "{i} {i}", "5 1.000000002E9 0", 0, 0, 2, 1, 8, 1);
      T.done("500000001 -2", "{i} {i}", "5 -1.000000002E9 0", 0, 0, 2, 1, 8, 1);
      T.done("999999999 a", "{i} {w}", "0 1.0E9 1", 0, 0, 4, 1, 8, 1);
      T.done("999999999 ab", "{i} {w}", "5 1.000000001E9 0", 0, 0, 4, 1, 8, 1);
    });
    T.sentence("with 5 cell by cell", () -> {
      T.done("a\n|999999999|1|\n|-5|0|", "a", "0 9.99999995E8 1", 5, 0, 8, 1);
      T.done("a\n|999999999|2|\n|-5|0|", "a", "5 1.000000001E9 0", 5, 0, 8, 1);
      T.done("a\n|-999999999|-2|5|0|", "a", "5 -1.000000001E9 0", 5, 0, 8, 1);
      T.done("a\n|999999999|\n|2|\n|-5|", "a", "5 1.000000001E9 0", 5, 0, 8, 1);
    });
    T.sentence("(it stays as it became)", () -> {
      T.done("999999999", "{i}", "5 " + 999999999.0 * 999999999 + " 0", 0, 0, 2, 0, 0, 0);
      StoryDesk x = T.told("F:\nS:\nG 999999999\nG 7\nS:\nG 7");
      T.define(x, "{i}", 0);
      T.script(x, 0, 1, 0, 1, 0);
      x.start(1);
      x.go(2);
      T.is("as it became", x.world(0), 1999999998);
      x.go(1);
      T.is("behind a step that is SKIPPED, too", x.world(0), 1999999998);
      x.go(3);
      T.is("but not in another case", x.world(0), 14);
    });
  }

  private static void waiting() {
    T.sentence("or when 50 units have been waited for in it and more are to be (these are not waited for; those up to 50 are).", () -> {
      T.done("a", "a", "0 0.0 50", 8, 50);
      T.done("a", "a", "5 0.0 50", 8, 51);
      T.done("a", "a", "5 0.0 50", 8, Integer.MAX_VALUE);
      T.done("a", "a", "0 0.0 50", 8, 20, 8, 29, 8, 1);
      T.done("a", "a", "5 0.0 50", 8, 20, 8, 29, 8, 2);
      T.done("a", "a", "5 0.0 50", 8, 50, 8, 1);
      T.done("a", "a", "0 0.0 50", 8, 50, 8, 0, 8, -1);
      T.done("9", "{i}", "5 0.0 50", 8, 51, 0, 0);
      T.doneByHook("0 7.0 50", 8, 50);
      T.doneByHook("5 7.0 50", 8, 30, 8, 30);
    });
    T.sentence("units have been waited for in it", () -> {
      StoryDesk x = T.told("F:\nS:\nG a\nG a\nS:\nG a");
      T.define(x, "a", 0);
      T.script(x, 0, 8, 50);
      T.hook(x, true, "", 0);
      T.hook(x, false, "", 0);
      for (int workers = 1; workers <= 3; workers++) {
        x.start(workers);
        x.go(40);
        T.is("each script has 50 of its own", x.event(0, 1), 0);
        T.is("and the run counts them all, each run anew", x.event(0, 2), 350);
      }
    });
  }

  private static void endings() {
    T.sentence("What FAILS or is PENDING ends it.", () -> {
      T.done("4", "{i}", "5 4.0 3", 8, 3, 0, 0, 6, 0, 8, 5);
      T.done("4", "{i}", "2 4.0 3", 8, 3, 0, 0, 7, 0, 8, 5);
      T.done("4", "{i}", "2 0.0 0", 7, 0, 6, 0);
      T.done("4", "{i}", "5 0.0 0", 6, 0, 7, 0);
      T.done("4", "{i}", "5 0.0 0", 3, 0, 7, 0, 0, 0);
      T.done("4", "{i}", "5 0.0 0", 0, 1, 0, 0);
      T.done("4", "{i}", "5 0.0 0", 4, 1, 0, 0);
      T.done("4", "{i}", "5 0.0 50", 8, 51, 0, 0);
    });
  }
}
