/** Promise 9: story tells a case's steps, tags, lines and status. */
public final class Promise09StoryTest {
  public static void main(String[] args) {
    Check t = new Check();
    tags(t);
    counts(t);
    lines(t);
    statuses(t);
    bounds(t);
    t.end();
  }

  private static void tags(Check t) {
    StoryDesk x = t.told("@a\n@b\nF:\nS:\n@c\nS:\n@d\nE:\n|n|\n|1|\n@p\nE:\n|n|\n|2|\n@e\nR:\n@f\nS:\nR:\nS:");
    t.is("cases", x.look(2), 5);
    t.is("of the FEATURE", x.story(0, 1), 3);
    t.is("and SCENARIO and EXAMPLES", x.story(1, 1), 3 + 4 + 8);
    t.is("and the other EXAMPLES", x.story(2, 1), 3 + 4 + 32768);
    t.is("and RULE", x.story(3, 1), 3 + 16 + 32);
    t.is("the other RULE has none", x.story(4, 1), 3);
    t.is("without any", t.told("F:\nS:").story(0, 1), 0);
    for (char tag = 'a'; tag <= 'p'; tag++) {
      t.is("tag " + tag, t.told("F:\n@" + tag + "\nS:").story(0, 1), 1 << (tag - 'a'));
    }
    StoryDesk y = t.told("@a\nF:\nS:");
    t.read(y, "F:\nS:");
    t.is("nothing of an older reading", y.story(0, 1), 0);
    StoryDesk z = t.told("F:\n@a\nS:\nG x\n@b\n#\n\n@c\nS:");
    t.is("tags of several lines", z.story(1, 1), 6);
    t.is("tags do not go on", z.story(0, 1), 1);
  }

  private static void counts(Check t) {
    StoryDesk x = t.told("F:\nB:\nG a\nG b\nS:\nS:\nG c\nE:\n|n|\n|1|\nR:\nB:\nG d\nS:\nG e\nS:\nR:\nB:\nS:\nG f");
    int[] due = {0, 3, 4, 0, 3};
    for (int story = 0; story < due.length; story++) {
      t.is("steps of " + story, x.story(story, 0), due[story]);
    }
  }

  private static void lines(Check t) {
    StoryDesk x = t.told("#\nF:\n\nS:\nG a\n\nS:\nE:\n|n|\n|1|\n#\n|2|\nE:\n\n|n|\n|3|");
    int[] scenario = {4, 7, 7, 7};
    int[] row = {0, 10, 12, 16};
    for (int story = 0; story < 4; story++) {
      t.is("SCENARIO of " + story, x.story(story, 2), scenario[story]);
      t.is("ROW of " + story, x.story(story, 3), row[story]);
    }
  }

  private static void statuses(Check t) {
    StoryDesk x = t.told("F:\nS:\nG a\nS:\nG f\nS:\nG p\nS:\nG u\nS:\nG m\n@a\nS:\nG a");
    t.define(x, "a", 0);
    t.define(x, "f", 1);
    t.define(x, "p", 2);
    t.define(x, "m", 0);
    t.define(x, "{w}m", 0);
    t.define(x, "m(x)", 0);
    t.script(x, 1, 6, 0);
    t.script(x, 2, 7, 0);
    for (int story = 0; story < 6; story++) {
      t.is("before a run", x.story(story, 4), -1);
    }
    t.filter(x, "!a");
    x.start(1);
    x.go(2);
    t.is("before the case is over", x.story(0, 4), -1);
    x.go(1);
    t.is("when it is over", x.story(0, 4), 0);
    t.is("the next one is not", x.story(1, 4), -1);
    x.go(40);
    int[] due = {0, 5, 2, 3, 4, -1};
    for (int story = 0; story < 6; story++) {
      t.is("status of " + story, x.story(story, 4), due[story]);
    }
    t.filter(x, "a");
    t.is("a filter leaves them", x.story(1, 4), 5);
    x.start(1);
    t.is("the next run begins", x.story(1, 4), -1);
    x.go(40);
    t.is("without it", x.story(1, 4), -1);
    t.is("in it", x.story(5, 4), 0);
    t.read(x, "F:\nS:\nG a");
    t.is("another case", x.story(0, 4), -1);
  }

  private static void bounds(Check t) {
    StoryDesk x = new StoryDesk();
    t.outOfBounds("without cases", () -> x.story(0, 0));
    t.read(x, "F:\nS:\nS:");
    int[] wrong = {-1, 2, 24, Integer.MAX_VALUE, Integer.MIN_VALUE};
    for (int story : wrong) {
      t.outOfBounds("case " + story, () -> x.story(story, 0));
    }
    int[] wrongWhat = {-1, 5, 100, Integer.MAX_VALUE, Integer.MIN_VALUE};
    for (int what : wrongWhat) {
      t.outOfBounds("what " + what, () -> x.story(1, what));
    }
    t.is("the last case", x.story(1, 2), 3);
  }
}
