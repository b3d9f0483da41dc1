/** The edges of a RUN: its cases and workers, their MOVES, STATUS and EVENTS. */
public final class EdgeRunTest {
  private static final Edge T = new Edge();

  public static void main(String[] args) {
    worst();
    workersAndCases();
    turns();
    hooksAndSteps();
    over();
    skipped();
    beginAndEnd();
    kept();
    refusals();
    T.end();
  }

  /** Steps a (passes), p (PENDING), f (fails), m (AMBIGUOUS); u is UNDEFINED. Scripts 1: PENDING, 2: fails. */
  private static StoryDesk all(String text) {
    StoryDesk x = T.told(text);
    T.script(x, 1, 7, 0);
    T.script(x, 2, 6, 0);
    T.define(x, "a", 0);
    T.define(x, "p", 1);
    T.define(x, "f", 2);
    T.define(x, "m", 0);
    T.define(x, "m(x)", 0);
    return x;
  }

  private static void due(String text, int workers, String events) {
    T.is("events of " + text, T.run(all(text), workers), events);
  }

  private static void worst() {
    T.sentence("STATUS: 0 passed, 1 SKIPPED, 2 PENDING, 3 UNDEFINED, 4 AMBIGUOUS, 5 failed", () -> {
      due("F:\nS:\nG a\nG p\nG a\nG u\nG m", 1, "0110 1000 3000 3012 3021 3033 3044 4040 5400");
      due("F:\nS:\nG f", 1, "0110 1000 3005 4050 5500");
    });
    T.sentence("the greatest is the worst.", () -> {
      due("F:\nS:\nG a\nG a", 1, "0110 1000 3000 3010 4000 5000");
      due("F:\nS:\nG p\nG a", 1, "0110 1000 3002 3011 4020 5200");
      due("F:\nS:\nG p\nG u\nG a", 1, "0110 1000 3002 3013 3021 4030 5300");
      due("F:\nS:\nG m\nG u", 1, "0110 1000 3004 3013 4040 5400");
      due("F:\nS:\nG f\nG m", 1, "0110 1000 3005 3014 4050 5500");
      due("F:\nS:\nG p\nS:\nG f\nS:\nG u\nS:\nG a", 1, "0410 1000 3002 4020 1100 3105 4150 1200 3203 4230 1300 3300 4300 5500");
    });
  }

  private static void workersAndCases() {
    T.sentence("A RUN has 1 to 3 WORKERS, numbered from 0", () -> {
      StoryDesk x = T.told("F:\nS:\nS:\nS:\nS:");
      T.is("one", T.run(x, 1), "0410 1000 4000 1100 4100 1200 4200 1300 4300 5000");
      T.is("two", T.run(x, 2), "0420 1000 1110 4000 4101 1200 1310 4200 4301 5000");
      T.is("three", T.run(x, 3), "0430 1000 1110 1220 4000 4101 4202 1300 4300 5000");
      T.wrongArgument("none", () -> x.start(0));
      T.wrongArgument("four", () -> x.start(4));
    });
    T.sentence("and those cases that fulfil the FILTER (a tag expression, at first an empty one).", () -> {
      StoryDesk x = T.told("F:\n@a\nS:\nS:\n@a\nS:");
      T.is("at first", x.start(3), 3);
      x.go(40);
      T.filter(x, "a");
      T.is("a", T.run(x, 1), "0210 1000 4000 1200 4200 5000");
      T.filter(x, "!a");
      T.is("not a", T.run(x, 2), "0120 1100 4100 5000");
      T.filter(x, "b");
      T.is("none", T.run(x, 1), "0010 5000");
      T.filter(x, "");
      T.is("all", x.start(1), 3);
    });
  }

  private static void turns() {
    T.sentence("In a MOVE the worker whose turn it is, the first one at first, and then the next ones, round and round, that can do something", () -> {
      due("F:\nS:\nG a\nG a\nS:\nG a\nS:", 2, "0320 1000 1110 3000 3100 3010 4101 4000 1210 4201 5000");
      due("F:\nS:\nG a\nG a\nG a\nS:", 3, "0230 1000 1110 3000 4101 3010 3020 4000 5000");
      due("F:\nS:\nS:\nG a\nG a\nS:", 3, "0330 1000 1110 1220 4000 3100 4202 3110 4101 5000");
      due("F:\nS:\nS:\nS:\nG a\nG a", 3, "0330 1000 1110 1220 4000 4101 3200 3210 4202 5000");
      due("F:\nS:\nG a", 3, "0130 1000 3000 4000 5000");
      StoryDesk x = T.told("F:\nS:");
      x.start(2);
      x.go(2);
      x.start(2);
      x.go(1);
      T.is("the first one at first in each run", T.events(x, 1), "1000");
    });
    T.sentence("without a case it takes the next one (EVENT 1: case, worker), if there is one.", () -> {
      StoryDesk x = T.told("F:\nS:\nS:");
      x.start(3);
      T.is("one move", x.go(1), 1);
      T.is("takes it", T.events(x, 1), "1000");
      T.is("another", x.go(1), 1);
      T.is("takes the next one", T.events(x, 1), "1110");
      T.is("a third", x.go(1), 1);
      T.is("there is no third one", T.events(x, 1), "4000");
    });
  }

  private static void hooksAndSteps() {
    T.sentence("With one: the BEFORE hooks whose expression holds for its tags, one a move, by their numbers (EVENT 2: case, hook, STATUS)", () -> {
      StoryDesk x = T.told("F:\n@a\nS:\nS:");
      T.hook(x, true, "", 0);
      T.hook(x, true, "a", 0);
      T.hook(x, true, "!a", 0);
      T.hook(x, true, "a", 0);
      x.start(1);
      x.go(1);
      for (String event : new String[] {"2000", "2010", "2030", "4000", "1100", "2100", "2120"}) {
        T.is("one a move", x.go(1), 1);
        T.is("its event", T.events(x, 1), event);
      }
    });
    T.sentence("then its steps, in order (EVENT 3: case, step, STATUS)", () -> {
      StoryDesk x = all("F:\nB:\nG a\nS:\nG p\nG a");
      T.hook(x, true, "", 0);
      x.start(1);
      x.go(2);
      for (String event : new String[] {"3000", "3012", "3021"}) {
        T.is("one a move", x.go(1), 1);
        T.is("its event", T.events(x, 1), event);
      }
    });
    T.sentence("then the AFTER hooks likewise, the greatest number first", () -> {
      StoryDesk x = all("F:\n@a\nS:\nG a");
      T.hook(x, false, "", 0);
      T.hook(x, false, "b", 0);
      T.hook(x, true, "", 0);
      T.hook(x, false, "a", 1);
      T.hook(x, false, "!a", 0);
      T.hook(x, false, "!b", 0);
      x.start(1);
      x.go(3);
      for (String event : new String[] {"2050", "2032", "2000"}) {
        T.is("one a move", x.go(1), 1);
        T.is("its event", T.events(x, 1), event);
      }
    });
  }

  private static void over() {
    T.sentence("then, a move of its own, the case is over (EVENT 4: case, the worst STATUS of it, hooks' too, 0 without any, worker).", () -> {
      StoryDesk x = all("F:\n@a\nS:\n@b\nS:\nG a\nS:\n@c\nS:\nG p");
      T.hook(x, true, "a", 1);
      T.hook(x, false, "b|c", 2);
      T.is("all", T.run(x, 2), "0420 1000 1110 2002 3100 4020 2115 1200 4151 4200 1310 3302 2315 4351 5500");
      StoryDesk y = T.told("F:\nS:");
      y.start(1);
      y.go(1);
      T.is("not before a move of its own", y.look(0), 1);
      T.is("the move", y.go(2), 1);
      T.is("0 without any", T.events(y, 2), "4000 5000");
    });
  }

  private static void skipped() {
    T.sentence("(EVENT 3: case, step, STATUS): UNDEFINED or AMBIGUOUS, wherever", () -> {
      due("F:\nS:\nG f\nG u\nG m\nG a", 1, "0110 1000 3005 3013 3024 3031 4050 5500");
      due("F:\nS:\nG u\nG u\nG m", 1, "0110 1000 3003 3013 3024 4040 5400");
      due("F:\nS:\nG a\nG m\nG u", 1, "0110 1000 3000 3014 3023 4040 5400");
    });
    T.sentence("Once something of a case has not passed, BEFORE hooks and bound steps of it are SKIPPED", () -> {
      for (String first : new String[] {"p2", "u3", "m4", "f5"}) {
        char status = first.charAt(1);
        due("F:\nS:\nG " + first.charAt(0) + "\nG a\nG f\nG p", 1,
            "0110 1000 300" + status + " 3011 3021 3031 40" + status + "0 5" + status + "00");
      }
      StoryDesk x = all("F:\nS:\nG a\nG f\nS:\nG a");
      T.hook(x, true, "", 0);
      T.hook(x, true, "", 1);
      T.hook(x, true, "", 2);
      T.is("behind a BEFORE hook", T.run(x, 1), "0210 1000 2000 2012 2021 3001 3011 4020 1100 2100 2112 2121 3101 4120 5200");
      due("F:\nS:\nG f\nS:\nG a", 2, "0220 1000 1110 3005 3100 4050 4101 5500");
      StoryDesk y = all("F:\nS:\nG 5\nG f\nG 7");
      T.define(y, "{i}", 3);
      T.script(y, 3, 1, 0);
      y.start(1);
      y.go(4);
      T.is("a SKIPPED step's script is not done", y.world(0), 5);
    });
    T.sentence("AFTER hooks are done.", () -> {
      StoryDesk x = all("F:\nS:\nG f\nS:\nG u\nS:\nG a");
      T.hook(x, false, "", 0);
      T.hook(x, false, "", 2);
      T.hook(x, false, "", 1);
      T.is("whatever has not passed", T.run(x, 1),
          "0310 1000 3005 2022 2015 2000 4050 1100 3103 2122 2115 2100 4150 1200 3200 2222 2215 2200 4250 5500");
    });
  }

  private static void beginAndEnd() {
    T.sentence("EVENT 0 (cases, workers) begins a run", () -> {
      StoryDesk x = T.told("F:\nS:\nS:");
      x.start(3);
      T.is("its only event", T.events(x, 1), "0230");
      T.is("there is no other", x.look(6), 1);
      StoryDesk y = T.told("F:\nS:\n@a\nS:\nS:");
      T.filter(y, "a");
      y.start(2);
      T.is("the cases in it", T.events(y, 1), "0120");
    });
    T.sentence("EVENT 5 (the worst STATUS of all cases, units that were waited for in the run) ends it", () -> {
      StoryDesk x = all("F:\nS:\nG a\nG f\nG a\nS:\nG a\n@b\nS:\nG m");
      T.yes("waits", x.command(0, 8, 4));
      T.hook(x, false, "b", 0);
      T.is("two steps and a hook have waited", T.run(x, 1).replaceAll(".* ", ""), "55120");
      T.filter(x, "b");
      T.is("of those in the run", T.run(x, 1).replaceAll(".* ", ""), "5440");
      T.filter(x, "b&!b");
      T.is("of none", T.run(x, 1), "0010 5000");
    });
    T.sentence("together with the move behind which nothing is left to do.", () -> {
      StoryDesk x = T.told("F:\nS:\nS:");
      x.start(2);
      T.is("three moves", x.go(3), 3);
      T.is("under way", x.look(0), 1);
      T.is("its latest event", T.events(x, 1), "4000");
      T.is("the last move", x.go(1), 1);
      T.is("both events", T.events(x, 2), "4101 5000");
      T.is("over", x.look(0), 0);
      T.is("all events", x.look(6), 6);
    });
  }

  private static void kept() {
    T.sentence("The latest 64 events are kept.", () -> {
      StoryDesk x = T.told("F:\nS:" + "\nG a".repeat(30) + "\nE:\n|n|\n|1|\n|2|");
      x.start(1);
      x.go(40);
      x.go(23);
      T.is("64", x.look(6), 64);
      T.is("the first one is kept", x.event(63, 0) * 100 + x.event(63, 1) * 10 + x.event(63, 2), 21);
      T.is("none before it", x.event(64, 0), -1);
      x.go(1);
      T.is("66", x.look(6), 66);
      T.is("the third one is kept", x.event(63, 0) * 100 + x.event(63, 1) * 10 + x.event(63, 2), 300);
      T.is("the second one is not", x.event(64, 0), -1);
      T.is("the latest", T.events(x, 2), "4130 5300");
    });
  }

  private static void refusals() {
    T.sentence("In a call that throws IllegalStateException for a run that is under way nothing is looked at before, and the text stays.", () -> {
      StoryDesk x = T.told("F:\nS:");
      x.start(1);
      T.put(x, "(&");
      T.wrongState("read", x::read);
      T.wrongState("define of what is not well formed, by no script", () -> x.define(-1));
      T.wrongState("hook of what is no tag expression, by no script", () -> x.hook(true, 8));
      T.wrongState("filter of what is none", x::filter);
      T.wrongState("start of no workers", () -> x.start(0));
      T.is("the text stays", x.look(1), 2);
      x.go(40);
      T.wrongArgument("it is the same text", () -> x.define(0));
      T.is("empty then", x.look(1), 0);
    });
    T.sentence("What throws or is refused changes nothing but what is told.", () -> {
      String before = state(busy());
      for (int call = 0; call < 24; call++) {
        StoryDesk x = busy();
        T.yes("refused: " + call, isRefused(x, call));
        T.is("state behind " + call, state(x), before);
      }
    });
  }

  /** A run under way, with a text, two cases, definitions and a hook. */
  private static StoryDesk busy() {
    StoryDesk x = all("F:\n@a\nS:\nG a\n|1|\nG p\nS:\nG u");
    T.hook(x, true, "a", 0);
    T.filter(x, "a|b|!c");
    x.start(2);
    x.go(4);
    T.put(x, "x y");
    return x;
  }

  private static boolean isRefused(StoryDesk x, int call) {
    try {
      switch (call) {
        case 0: return !x.put(0x61, 0);
        case 1: return !x.put(0x61, 9);
        case 2: return !x.put(0x6109, 2);
        case 3: x.read(); return false;
        case 4: x.error(0, 0); return false;
        case 5: x.define(0); return false;
        case 6: x.hook(false, 0); return false;
        case 7: x.filter(); return false;
        case 8: return !x.command(0, 6, 0);
        case 9: x.story(2, 0); return false;
        case 10: x.story(0, 5); return false;
        case 11: x.step(0, 2, 0); return false;
        case 12: x.step(0, 0, 4); return false;
        case 13: x.argument(0, 0, 0); return false;
        case 14: x.argument(1, 0, 0); return false;
        case 15: x.argument(0, 9, 0); return false;
        case 16: x.cell(0, 0, 1, 0, 0); return false;
        case 17: x.start(1); return false;
        case 18: return x.go(0) == -1;
        case 19: return x.go(41) == -1;
        case 20: return x.event(-1, 0) == -1;
        case 21: return x.event(0, 4) == -1;
        case 22: return x.world(3) == 0;
        default: return x.look(8) == -1;
      }
    } catch (RuntimeException e) {
      return true;
    }
  }

  private static String state(StoryDesk x) {
    StringBuilder all = new StringBuilder();
    for (int what = 0; what < 8; what++) {
      all.append(x.look(what)).append(' ');
    }
    all.append(T.events(x, x.look(6))).append(' ');
    for (int story = 0; story < 2; story++) {
      for (int what = 0; what < 5; what++) {
        all.append(x.story(story, what)).append(' ');
      }
      all.append(x.step(story, 0, 2)).append(T.stepText(x, story, 0)).append(' ');
    }
    all.append(x.world(0)).append(x.world(1));
    x.go(40);
    return all.append(T.events(x, x.look(6))).append(x.look(1)).toString();
  }
}
