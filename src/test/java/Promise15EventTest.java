/** Promise 15: event tells the latest 64 events. */
public final class Promise15EventTest {
  public static void main(String[] args) {
    Check t = new Check();
    kinds(t);
    bounds(t);
    latest(t);
    t.end();
  }

  private static void kinds(Check t) {
    StoryDesk x = t.told("F:\nS:\nS:\nG f");
    t.define(x, "f", 1);
    t.script(x, 1, 8, 7, 6, 0);
    t.script(x, 2, 7, 0);
    t.hook(x, true, "a", 0);
    t.hook(x, false, "", 2);
    x.start(2);
    x.go(40);
    int[][] due = {{0, 2, 2, 0}, {1, 0, 0, 0}, {1, 1, 1, 0}, {2, 0, 1, 2}, {3, 1, 0, 5}, {4, 0, 2, 0}, {2, 1, 1, 2}, {4, 1, 5, 1}, {5, 5, 7, 0}};
    t.is("events", x.look(6), due.length);
    for (int i = 0; i < due.length; i++) {
      for (int what = 0; what < 4; what++) {
        t.is("event " + i + " what " + what, x.event(due.length - 1 - i, what), due[i][what]);
      }
    }
  }

  private static void bounds(Check t) {
    StoryDesk x = t.told("F:\nS:");
    for (int what = -1; what <= 4; what++) {
      t.is("none yet", x.event(0, what), -1);
    }
    x.start(1);
    t.is("there", x.event(0, 1), 1);
    int[] wrong = {-1, 4, 5, 100, Integer.MAX_VALUE, Integer.MIN_VALUE};
    for (int what : wrong) {
      t.is("no what " + what, x.event(0, what), -1);
    }
    int[] wrongK = {-1, 1, 63, 64, Integer.MAX_VALUE, Integer.MIN_VALUE};
    for (int k : wrongK) {
      t.is("no event " + k, x.event(k, 0), -1);
    }
    t.is("looking changes nothing", x.look(6), 1);
  }

  private static void latest(Check t) {
    StoryDesk x = t.told("F:\nS:" + "\nG a".repeat(30) + "\nE:\n|n|\n|1|\n|2|");
    x.start(1);
    t.is("moves", x.go(40), 40);
    t.is("moves", x.go(23), 23);
    t.is("events", x.look(6), 64);
    t.is("the 64th", x.event(63, 0), 0);
    t.is("its cases", x.event(63, 1), 2);
    t.is("none before it", x.event(64, 0), -1);
    t.is("the latest", t.events(x, 1), "31293");
    x.go(1);
    t.is("both events of the last move", t.events(x, 2), "4130 5300");
    t.is("events", x.look(6), 66);
    t.is("the oldest one kept", x.event(63, 0), 3);
    t.is("its step", x.event(63, 2), 0);
    t.is("the one before it is gone", x.event(64, 0), -1);
    for (int i = 0; i < 40; i++) {
      x.start(1);
      x.go(40);
      x.go(40);
    }
    t.is("events ever", x.look(6), 66 * 41);
    t.is("still the same", t.events(x, 2), "4130 5300");
    t.is("still the same", x.event(63, 2), 0);
    t.is("still the same", x.event(62, 2), 1);
    t.is("still none", x.event(64, 0), -1);
  }
}
