/** Promise 16: world tells the NUMBER of a worker's case. */
public final class Promise16WorldTest {
  public static void main(String[] args) {
    Check t = new Check();
    StoryDesk x = t.told("F:\nS:\nG 1.5\nG 2\nS:\nG -7\nG u");
    t.define(x, "{i}", 0);
    t.define(x, "{d}", 0);
    t.script(x, 0, 1, 0);
    worlds(t, x, "without a run", 0, 0, 0);
    x.start(2);
    worlds(t, x, "without a case", 0, 0, 0);
    double[][] due = {{0, 0}, {0, 0}, {1.5, 0}, {1.5, -7}, {3.5, -7}, {3.5, -7}, {0, -7}, {0, 0}};
    for (int i = 0; i < due.length; i++) {
      t.is("a move", x.go(1), 1);
      worlds(t, x, "behind move " + (i + 1), due[i][0], due[i][1], 0);
    }
    t.is("over", x.look(0), 0);
    x.start(1);
    x.go(3);
    worlds(t, x, "a new run", 3.5, 0, 0);
    x.go(2);
    worlds(t, x, "a new case begins with 0", 0, 0, 0);
    fails(t);
    t.end();
  }

  private static void worlds(Check t, StoryDesk x, String when, double... due) {
    for (int worker = 0; worker < due.length; worker++) {
      t.is("worker " + worker + " " + when, x.world(worker), due[worker]);
    }
    int[] wrong = {-1, 3, 4, Integer.MAX_VALUE, Integer.MIN_VALUE};
    for (int worker : wrong) {
      t.is("no worker " + worker + " " + when, x.world(worker), 0.0);
    }
  }

  private static void fails(Check t) {
    StoryDesk x = t.told("F:\nS:\nG 999999999\nG 2");
    t.define(x, "{i}", 0);
    t.script(x, 0, 1, 0);
    x.start(1);
    x.go(3);
    t.is("it stays as it became", x.world(0), 1000000001);
    x.go(1);
    t.is("without a case", x.world(0), 0.0);
  }
}
