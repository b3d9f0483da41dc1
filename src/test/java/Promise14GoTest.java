/** Promise 14: go makes up to n moves (the term RUN: moves, workers, hooks and statuses). */
public final class Promise14GoTest {
  public static void main(String[] args) {
    Check t = new Check();
    counts(t);
    order(t);
    turns(t);
    hooks(t);
    skipping(t);
    beforeHooksThatDoNotPass(t);
    worst(t);
    worlds(t);
    t.end();
  }

  private static void counts(Check t) {
    StoryDesk x = t.told("F:" + "\nS:".repeat(12));
    int[] wrong = {0, -1, 41, 100, Integer.MAX_VALUE, Integer.MIN_VALUE};
    for (int n : wrong) {
      t.is("refused without a run", x.go(n), -1);
    }
    t.is("without a run", x.go(1), 0);
    t.is("without a run", x.go(40), 0);
    x.start(1);
    for (int n : wrong) {
      t.is("refused", x.go(n), -1);
    }
    t.is("no move was made", x.look(6), 1);
    t.is("one", x.go(1), 1);
    t.is("two", x.go(2), 2);
    t.is("up to the end", x.go(40), 21);
    t.is("over", x.look(0), 0);
    t.is("behind it", x.go(40), 0);
    StoryDesk y = t.told("F:\nS:" + "\nG a".repeat(30) + "\nE:\n|n|\n|1|\n|2|");
    y.start(1);
    t.is("40", y.go(40), 40);
    t.is("the rest", y.go(40), 24);
    StoryDesk z = t.told("F:\nS:");
    z.start(1);
    t.is("just so many", z.go(2), 2);
    t.is("over with the last move", z.look(0), 0);
    t.is("both events of the last move", t.events(z, 4), "0110 1000 4000 5000");
  }

  private static void order(Check t) {
    StoryDesk x = t.told("F:\nS:\nG a\nG b\nS:\nG a");
    t.define(x, "{w}", 0);
    x.start(1);
    String[] due = {"1000", "3000", "3010", "4000", "1100", "3100", "4100"};
    for (String event : due) {
      t.is("one move", x.go(1), 1);
      t.is("its event", t.events(x, x.look(0) == 1 ? 1 : 2).substring(0, 4), event);
    }
    t.is("the end", t.events(x, 1), "5000");
  }

  private static void turns(Check t) {
    StoryDesk x = t.told("F:\nS:\nG a\nG a\nG a\nS:\nS:\nG a");
    t.define(x, "a", 0);
    x.start(2);
    x.go(40);
    t.is("two workers", t.events(x, 12), "0320 1000 1110 3000 4101 3010 1210 3020 3200 4000 4201 5000");
    x.start(3);
    x.go(40);
    t.is("three workers", t.events(x, 12), "0330 1000 1110 1220 3000 4101 3200 3010 4202 3020 4000 5000");
    x.start(1);
    x.go(40);
    t.is("one worker", t.events(x, 12), "0310 1000 3000 3010 3020 4000 1100 4100 1200 3200 4200 5000");
    StoryDesk y = t.told("F:\nS:\nG a");
    y.start(3);
    y.go(40);
    t.is("more workers than cases", t.events(y, 5), "0130 1000 3003 4030 5300");
    y.start(3);
    t.is("moves of one worker among three", y.go(2), 2);
    t.is("those that can do nothing make none", y.go(40), 1);
    y.start(3);
    y.go(1);
    t.is("the first one is the first again", t.events(y, 1), "1000");
  }

  private static void hooks(Check t) {
    StoryDesk x = t.told("F:\n@a\nS:\nG x\n@b\nS:\nG x");
    t.define(x, "x", 0);
    t.hook(x, false, "a", 0);
    t.hook(x, true, "", 0);
    t.hook(x, true, "b", 0);
    t.hook(x, false, "", 0);
    t.hook(x, true, "!b", 0);
    t.hook(x, false, "a&b", 0);
    t.hook(x, true, "a|b", 0);
    x.start(1);
    x.go(40);
    t.is("by their numbers, and down", t.events(x, 17),
        "0210 1000 2010 2040 2060 3000 2030 2000 4000 1100 2110 2120 2160 3100 2130 4100 5000");
  }

  private static void skipping(Check t) {
    StoryDesk x = t.told("F:\nS:\nG p\nG f\nG a\nG u\nG m\nG a");
    t.define(x, "a", 0);
    t.define(x, "f", 1);
    t.define(x, "p", 2);
    t.define(x, "m", 0);
    t.define(x, "m(x)", 0);
    t.script(x, 1, 6, 0);
    t.script(x, 2, 7, 0);
    t.script(x, 3, 6, 0);
    t.hook(x, false, "", 0);
    x.start(1);
    x.go(40);
    t.is("behind PENDING", t.events(x, 11), "0110 1000 3002 3011 3021 3033 3044 3051 2000 4040 5400");
    t.read(x, "F:\nS:\nG u\nG a\nS:\nG m\nG f\nS:\nG f\nG p\nS:\nG a\nG f");
    x.start(1);
    x.go(40);
    t.is("behind UNDEFINED, AMBIGUOUS, a failure, and one that passed", t.events(x, 22),
        "0410 1000 3003 3011 2000 4030 1100 3104 3111 2100 4140 1200 3205 3211 2200 4250 1300 3300 3315 2300 4350 5500");
  }

  private static void beforeHooksThatDoNotPass(Check t) {
    StoryDesk x = t.told("F:\nS:\nG a\nG u");
    t.define(x, "a", 0);
    t.script(x, 1, 7, 0);
    t.script(x, 2, 6, 0);
    t.hook(x, true, "", 0);
    t.hook(x, true, "", 1);
    t.hook(x, true, "", 2);
    t.hook(x, true, "", 0);
    t.hook(x, false, "", 0);
    t.hook(x, false, "", 2);
    t.hook(x, false, "", 1);
    x.start(1);
    x.go(40);
    t.is("BEFORE hooks are skipped, AFTER hooks are done", t.events(x, 13), "0110 1000 2000 2012 2021 2031 3001 3013 2062 2055 2040 4050 5500");
  }

  private static void worst(Check t) {
    StoryDesk x = t.told("F:\n@a\nS:\n@b\nS:\n@c\nS:");
    t.script(x, 1, 7, 0);
    t.script(x, 2, 6, 0);
    t.hook(x, true, "a", 1);
    t.hook(x, false, "b", 2);
    x.start(1);
    x.go(40);
    t.is("hooks' too", x.story(0, 4) * 100 + x.story(1, 4) * 10 + x.story(2, 4), 250);
    t.is("worst of the run", x.event(0, 1), 5);
    t.filter(x, "!b");
    x.start(2);
    x.go(40);
    t.is("of those in the run alone", x.event(0, 1), 2);
    t.filter(x, "c");
    x.start(2);
    x.go(40);
    t.is("none", x.event(0, 1), 0);
  }

  /** Each case has its own NUMBER, and workers do not disturb one another's. */
  private static void worlds(Check t) {
    StoryDesk x = t.told("F:\nS:\nG 1\nG 2\nG is 3\nS:\nG 10\nG 20\nG is 30\nS:\nG is 0");
    t.define(x, "{i}", 0);
    t.define(x, "is {i}", 1);
    t.script(x, 0, 1, 0);
    t.script(x, 1, 3, 0);
    for (int workers = 1; workers <= 3; workers++) {
      x.start(workers);
      x.go(40);
      t.is("all pass with " + workers, x.event(0, 1), 0);
    }
  }
}
