/** Promise 17: look tells the counts of what is there. */
public final class Promise17LookTest {
  public static void main(String[] args) {
    Check t = new Check();
    StoryDesk x = new StoryDesk();
    all(t, x, "new", 0, 0, 0, 0, 0, 0, 0, 0);
    t.put(x, "F:\nS:\nS:\nG a");
    all(t, x, "with a text", 0, 12, 0, 0, 0, 0, 0, 0);
    x.read();
    all(t, x, "read", 0, 0, 2, 0, 0, 0, 0, 0);
    t.define(x, "a", 0);
    t.define(x, "b", 0);
    t.define(x, "c", 0);
    all(t, x, "defined", 0, 0, 2, 3, 0, 0, 0, 0);
    t.hook(x, true, "a", 0);
    all(t, x, "a hook", 0, 0, 2, 3, 1, 0, 0, 0);
    x.start(1);
    all(t, x, "started", 1, 0, 2, 3, 1, 0, 1, 0);
    x.go(2);
    t.put(x, "#1");
    all(t, x, "under way", 1, 2, 2, 3, 1, 0, 3, 0);
    x.go(40);
    all(t, x, "over", 0, 2, 2, 3, 1, 0, 7, 0);
    x.read();
    all(t, x, "an error", 0, 0, 0, 3, 1, 1, 7, 1);
    t.read(x, "F:\nE:\nG a");
    all(t, x, "two errors", 0, 0, 0, 3, 1, 0, 7, 2);
    t.read(x, "#1\nP:\nC:");
    all(t, x, "dialect 1", 0, 0, 1, 3, 1, 1, 7, 0);
    t.put(x, "#");
    all(t, x, "it is that of the latest reading", 0, 1, 1, 3, 1, 1, 7, 0);
    x.read();
    all(t, x, "dialect 0", 0, 0, 0, 3, 1, 0, 7, 1);
    int[] wrong = {-1, 8, 9, 100, Integer.MAX_VALUE, Integer.MIN_VALUE};
    for (int what : wrong) {
      t.is("no what " + what, x.look(what), -1);
    }
    t.end();
  }

  private static void all(Check t, StoryDesk x, String when, int... due) {
    for (int what = 0; what < due.length; what++) {
      t.is("look " + what + " " + when, x.look(what), due[what]);
    }
  }
}
