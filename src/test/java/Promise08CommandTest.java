/** Promise 8: command appends a command to a script; what the commands do (the term SCRIPTS). */
public final class Promise08CommandTest {
  public static void main(String[] args) {
    Check t = new Check();
    refusals(t);
    duringARun(t);
    numbers(t);
    lengths(t);
    tables(t);
    waiting(t);
    limits(t);
    endings(t);
    hooks(t);
    t.end();
  }

  private static void refusals(Check t) {
    StoryDesk x = new StoryDesk();
    int[] wrong = {-1, 8, 9, Integer.MAX_VALUE, Integer.MIN_VALUE};
    for (int script : wrong) {
      t.no("script " + script, x.command(script, 6, 0));
    }
    int[] wrongCommands = {-1, 9, 10, Integer.MAX_VALUE, Integer.MIN_VALUE};
    for (int command : wrongCommands) {
      t.no("command " + command, x.command(0, command, 0));
    }
    for (int script = 0; script < 8; script++) {
      for (int i = 0; i < 4; i++) {
        t.yes("command " + i, x.command(script, i + script % 2 * 5, Integer.MIN_VALUE));
      }
      t.no("a fifth", x.command(script, 6, 0));
    }
    StoryDesk y = new StoryDesk();
    for (int command = 0; command <= 8; command++) {
      t.yes("command " + command, y.command(command % 8, command, command));
    }
  }

  private static void duringARun(Check t) {
    StoryDesk x = t.told("F:\nS:\nG a");
    t.define(x, "a", 0);
    x.start(1);
    t.no("during a run", x.command(0, 6, 0));
    x.go(40);
    t.is("it was not appended", x.story(0, 4), 0);
    t.yes("behind it", x.command(0, 6, 0));
    x.start(1);
    x.go(40);
    t.is("it is there now", x.story(0, 4), 5);
  }

  /** One step of one case, run up to the step; its status and NUMBER. */
  private static void due(Check t, String steps, String expression, int status, double number, int waited, int... pairs) {
    StoryDesk x = t.told("F:\nS:\n" + steps);
    t.define(x, expression, 3);
    t.script(x, 3, pairs);
    x.start(1);
    x.go(2);
    String what = steps + " of " + expression;
    t.is("event of " + what, x.event(0, 0), 3);
    t.is("status of " + what, x.event(0, 3), status);
    t.is("NUMBER of " + what, x.world(0), number);
    x.go(40);
    t.is("units of " + what, x.event(0, 2), waited);
    t.is("worst of " + what, x.event(0, 1), status);
  }

  private static void numbers(Check t) {
    due(t, "G 7", "{i}", 0, 7, 0, 0, 0);
    due(t, "G -7", "{i}", 0, -7, 0, 0, 0);
    due(t, "G -999999999", "{i}", 0, -999999999, 0, 0, 0);
    due(t, "G 007", "{i}", 0, 7, 0, 0, 0);
    due(t, "G 1.5", "{d}", 0, 1.5, 0, 0, 0);
    due(t, "G -1.25", "{d}", 0, -1.25, 0, 0, 0);
    due(t, "G -0.125", "{d}", 0, -0.125, 0, 0, 0);
    due(t, "G 0.1", "{d}", 0, 1 / 10.0, 0, 0, 0);
    due(t, "G 123456.789", "{d}", 0, 123456789 / 1000.0, 0, 0, 0);
    due(t, "G 1.10", "{d}", 0, 110 / 100.0, 0, 0, 0);
    due(t, "G 2 3", "{i} {i}", 0, 5, 0, 0, 0, 1, 1);
    due(t, "G 2 3", "{i} {i}", 0, 6, 0, 0, 0, 2, 1);
    due(t, "G 2 3", "{i} {i}", 0, 3, 0, 1, 0, 0, 1);
    due(t, "G 0.1 0.2", "{d} {d}", 0, 0.1 + 0.2, 0, 1, 0, 1, 1);
    due(t, "G 0.1 3", "{d} {i}", 0, 0.1 * 3, 0, 0, 0, 2, 1);
    due(t, "G 2 2", "{i} {i}", 0, 2, 0, 0, 0, 3, 1);
    due(t, "G 2 2.0", "{i} {d}", 0, 2, 0, 0, 0, 3, 1);
    due(t, "G 2 3", "{i} {i}", 5, 2, 0, 0, 0, 3, 1);
    due(t, "G 0", "{i}", 0, 0, 0, 3, 0);
    for (int command = 0; command <= 3; command++) {
      due(t, "G 5", "{w}", 5, 0, 0, command, 0);
      due(t, "G \"5\"", "{s}", 5, 0, 0, command, 0);
      due(t, "G 0", "{i}", 5, 0, 0, command, 1);
      due(t, "G 0", "{i}", 5, 0, 0, command, -1);
      due(t, "G 0", "{i}", 5, 0, 0, command, Integer.MAX_VALUE);
      due(t, "G x", "x", 5, 0, 0, command, 0);
    }
  }

  private static void lengths(Check t) {
    due(t, "G abc", "{w}", 0, 3, 0, 4, 0);
    due(t, "G \"a c\"", "{s}", 0, 3, 0, 4, 0);
    due(t, "G \"\"", "{s}", 0, 0, 0, 4, 0);
    due(t, "G -12", "{i}", 0, 3, 0, 4, 0);
    due(t, "G 1.25 ab", "{d} {w}", 0, 6, 0, 4, 0, 4, 1);
    due(t, "G abc", "{w}", 5, 0, 0, 4, 1);
    due(t, "G abc", "{w}", 5, 0, 0, 4, -1);
    due(t, "G abc", "abc", 5, 0, 0, 4, 0);
  }

  private static void tables(Check t) {
    due(t, "G a", "a", 0, 0, 0, 5, 0);
    due(t, "G a\n|1|2|\n|3|-4|", "a", 0, 2, 0, 5, 0);
    due(t, "G a\n|1|2|\n|3|-4|", "a", 0, 4, 0, 5, 0, 5, 99);
    due(t, "G a\n|x|1.5|\n|-|--1|", "a", 0, 0, 0, 5, 0);
    due(t, "G a\n|1 2|1-|\n|+1||\n|2x|7|", "a", 0, 7, 0, 5, 0);
    due(t, "G a\n|999999999|\n|1000000000|\n|-999999998|\n|-1000000000|", "a", 0, 1, 0, 5, 0);
    due(t, "G 5\n|1|", "{i}", 0, 6, 0, 0, 0, 5, 0);
  }

  private static void waiting(Check t) {
    due(t, "G a", "a", 0, 0, 50, 8, 50);
    due(t, "G a", "a", 5, 0, 50, 8, 51);
    due(t, "G a", "a", 0, 0, 0, 8, 0);
    due(t, "G a", "a", 0, 0, 0, 8, -5);
    due(t, "G a", "a", 0, 0, 0, 8, Integer.MIN_VALUE);
    due(t, "G a", "a", 5, 0, 50, 8, Integer.MAX_VALUE);
    due(t, "G a", "a", 0, 0, 50, 8, 20, 8, 30);
    due(t, "G a", "a", 5, 0, 50, 8, 20, 8, 31);
    due(t, "G a", "a", 5, 0, 50, 8, 50, 8, 1);
    due(t, "G a", "a", 0, 0, 50, 8, 50, 8, 0, 8, -1);
    due(t, "G a", "a", 5, 0, 7, 8, 7, 6, 0, 8, 7);
    due(t, "G 9", "{i}", 5, 0, 50, 8, 60, 0, 0);
    StoryDesk x = t.told("F:\nS:\nG a\nG a\nS:\nG a");
    t.define(x, "a", 0);
    t.script(x, 0, 8, 30);
    x.start(2);
    x.go(40);
    t.is("each script has its own 50 units", x.event(0, 1), 0);
    t.is("the run counts all", x.event(0, 2), 90);
    x.start(1);
    x.go(40);
    t.is("each run anew", x.event(0, 2), 90);
  }

  private static void limits(Check t) {
    due(t, "G 500000000 2", "{i} {i}", 0, 1000000000, 0, 0, 0, 2, 1);
    due(t, "G -500000000 2", "{i} {i}", 0, -1000000000, 0, 0, 0, 2, 1);
    due(t, "G 999999999 1", "{i} {i}", 0, 1000000000, 0, 0, 0, 1, 1);
    due(t, "G 999999999 2", "{i} {i}", 5, 1000000001, 0, 0, 0, 1, 1);
    due(t, "G -999999999 -2", "{i} {i}", 5, -1000000001, 0, 0, 0, 1, 1, 0, 1);
    due(t, "G 999999999 999999999", "{i} {i}", 5, 999999999.0 * 999999999.0, 0, 0, 0, 2, 1);
    due(t, "G 999999999 1.001", "{i} {d}", 5, 999999999 + 1.001, 0, 0, 0, 1, 1);
    due(t, "G 999999999 abc", "{i} {w}", 5, 1000000002, 0, 0, 0, 4, 1, 0, 0);
    due(t, "G a\n|999999999|1|\n|1|-5|", "a", 5, 1000000001, 0, 5, 0);
    due(t, "G a\n|-999999999|-1|\n|-3|5|", "a", 5, -1000000003, 0, 5, 0, 8, 5);
    due(t, "G a\n|999999999|1|\n|-3|3|", "a", 0, 1000000000, 0, 5, 0);
  }

  private static void endings(Check t) {
    due(t, "G 4", "{i}", 5, 4, 0, 0, 0, 6, 0, 1, 0);
    due(t, "G 4", "{i}", 2, 4, 0, 0, 0, 7, 0, 1, 0);
    due(t, "G 4", "{i}", 2, 0, 0, 7, 0, 6, 0);
    due(t, "G 4", "{i}", 5, 4, 0, 0, 0, 3, 5, 1, 0);
    due(t, "G 4 12", "{i} {i}", 0, 12, 0, 0, 0, 1, 0, 1, 0, 3, 1);
  }

  /** A hook has neither arguments nor a table, also not those of a step done before. */
  private static void hooks(Check t) {
    int[] due = {5, 5, 5, 5, 5, 0, 5, 2, 0};
    for (int command = 0; command <= 8; command++) {
      for (int before = 0; before <= 1; before++) {
        StoryDesk x = t.told("F:\nS:\nG 5\n|3|");
        t.define(x, "{i}", 0);
        t.script(x, 0, 0, 0);
        t.script(x, 1, command, 0);
        t.hook(x, before == 1, "", 1);
        x.start(1);
        x.go(before == 1 ? 2 : 3);
        t.is("a hook's event", x.event(0, 0), 2);
        t.is("a hook with command " + command, x.event(0, 3), due[command]);
        t.is("it leaves NUMBER", x.world(0), before == 1 ? 0.0 : 5.0);
      }
    }
    waitingHooks(t);
    hookBehindTheLimits(t);
  }

  private static void waitingHooks(Check t) {
    StoryDesk x = t.told("F:\nS:\nG a");
    t.define(x, "a", 0);
    t.script(x, 0, 8, 40);
    t.hook(x, true, "", 0);
    t.hook(x, false, "", 0);
    x.start(1);
    x.go(40);
    t.is("each has its own 50 units", x.event(0, 1), 0);
    t.is("all of them count", x.event(0, 2), 120);
  }

  /** NUMBER stays as it became; behind each command of an AFTER hook it is looked at again. */
  private static void hookBehindTheLimits(Check t) {
    StoryDesk x = t.told("F:\nS:\nG 999999999 2");
    t.define(x, "{i} {i}", 0);
    t.script(x, 0, 0, 0, 2, 1);
    t.script(x, 1, 8, 3);
    t.hook(x, false, "", 1);
    t.hook(x, false, "", 2);
    x.start(1);
    x.go(3);
    t.is("a hook without commands passes", x.event(0, 3), 0);
    x.go(1);
    t.is("one with a command fails", x.event(0, 3), 5);
    t.is("NUMBER stays", x.world(0), 1999999998);
  }
}
