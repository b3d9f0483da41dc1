/** Promise 13: start begins a run of the cases that fulfil the filter. */
public final class Promise13StartTest {
  public static void main(String[] args) {
    Check t = new Check();
    counts(t);
    workers(t);
    withoutCases(t);
    underWay(t);
    again(t);
    t.end();
  }

  private static void counts(Check t) {
    StoryDesk x = t.told("F:\n@a\nS:\nS:\n@a @b\nS:\nE:\n|n|\n|1|\n|2|\nS:");
    t.is("all", x.start(1), 5);
    t.is("under way", x.look(0), 1);
    t.is("the event", x.event(0, 0), 0);
    t.is("its cases", x.event(0, 1), 5);
    t.is("its workers", x.event(0, 2), 1);
    t.is("no more", x.event(0, 3), 0);
    t.is("one event", x.look(6), 1);
    x.go(40);
    t.filter(x, "a");
    t.is("those of the filter", x.start(3), 3);
    t.is("its cases", x.event(0, 1), 3);
    t.is("its workers", x.event(0, 2), 3);
    x.go(40);
    t.is("they are taken in their order", t.events(x, 8), "0330 1000 1210 1320 4000 4201 4302 5000");
  }

  private static void workers(Check t) {
    StoryDesk x = t.told("F:\nS:");
    int[] wrong = {0, 4, -1, Integer.MAX_VALUE, Integer.MIN_VALUE};
    for (int workers : wrong) {
      t.wrongArgument("workers " + workers, () -> x.start(workers));
      t.is("no run", x.look(0), 0);
      t.is("no event", x.look(6), 0);
    }
    for (int workers = 1; workers <= 3; workers++) {
      t.is("workers " + workers, x.start(workers), 1);
      t.is("told", x.event(0, 2), workers);
      x.go(40);
    }
  }

  private static void withoutCases(Check t) {
    StoryDesk x = new StoryDesk();
    t.is("none", x.start(2), 0);
    t.is("over at once", x.look(0), 0);
    t.is("both events", t.events(x, 2), "0020 5000");
    t.is("two of them", x.look(6), 2);
    t.is("nothing to go", x.go(1), 0);
    t.is("and again", x.start(1), 0);
    t.is("four of them", x.look(6), 4);
    t.read(x, "F:\nS:");
    t.filter(x, "a");
    t.is("none fulfils the filter", x.start(1), 0);
    t.is("over at once", x.look(0), 0);
    t.is("the case has no status", x.story(0, 4), -1);
    t.wrongArgument("workers are looked at all the same", () -> x.start(0));
  }

  private static void underWay(Check t) {
    StoryDesk x = t.told("F:\nS:\nS:");
    x.start(1);
    t.put(x, "a");
    t.wrongState("under way", () -> x.start(1));
    t.wrongState("with wrong workers, too", () -> x.start(0));
    t.is("the text stays", x.look(1), 1);
    t.is("no event", x.look(6), 1);
    t.is("the run goes on", x.go(40), 4);
    t.is("a new one", x.start(2), 2);
  }

  private static void again(Check t) {
    StoryDesk x = t.told("F:\nS:\nG f");
    t.define(x, "f", 0);
    t.script(x, 0, 8, 9, 6, 0);
    for (int i = 0; i < 3; i++) {
      x.start(1 + i);
      t.is("no status yet", x.story(0, 4), -1);
      x.go(40);
      t.is("the same status", x.story(0, 4), 5);
      t.is("the same units", x.event(0, 2), 9);
    }
    t.is("events ever", x.look(6), 15);
  }
}
