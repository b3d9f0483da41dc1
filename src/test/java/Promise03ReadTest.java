/** Promise 3: read reads the text, counts its errors and makes the cases (the terms READING and CASES). */
public final class Promise03ReadTest {
  public static void main(String[] args) {
    Check t = new Check();
    answers(t);
    lines(t);
    states(t);
    stepsAfterTags(t);
    owners(t);
    caseCounts(t);
    limits(t);
    duringARun(t);
    t.end();
  }

  private static void answers(Check t) {
    StoryDesk x = new StoryDesk();
    t.is("ordinary", t.read(x, "F: a\nS: b\nG c\nS: d"), 0);
    t.is("cases", x.look(2), 2);
    t.is("text is empty", x.look(1), 0);
    t.is("errors: no cases", t.read(x, "F:\nS:\nG a\nB:"), 1);
    t.is("none", x.look(2), 0);
    t.outOfBounds("no case", () -> x.story(0, 0));
    t.is("again without errors", t.read(x, "F:\nS:"), 0);
    t.is("one case", x.look(2), 1);
    t.is("an empty text has an error", x.read(), 1);
    t.is("no cases of the old text", x.look(2), 0);
    t.is("a FEATURE alone is no error", t.read(x, "F:"), 0);
    t.is("but has no cases", x.look(2), 0);
  }

  private static void lines(Check t) {
    StoryDesk x = t.told("  \n# no\n   F: x  \n\n  # S:\n  S: y \n\n  G   a  b  \n   \n|  p q | r|\n  |  | |  \n#");
    t.is("one case", x.look(2), 1);
    t.is("line of SCENARIO", x.story(0, 2), 6);
    t.is("line of STEP", x.step(0, 0, 0), 8);
    t.is("text without blanks at both ends", t.stepText(x, 0, 0), "a  b");
    t.is("rows", x.step(0, 0, 1), 2);
    t.is("cell", t.cellText(x, 0, 0, 0, 0), "p q");
    t.is("cell", t.cellText(x, 0, 0, 0, 1), "r");
    t.is("empty cell", t.cellText(x, 0, 0, 1, 0), "");
    dialects(t);
  }

  private static void dialects(Check t) {
    StoryDesk x = t.told("  #1 \n@a\nP:\nH:\nD a\n@b\nQ:\nC:\nN b\nZ c\nU d\n* e\nX:\n|n|\n|m|");
    t.is("dialect", x.look(5), 1);
    t.is("steps", x.story(0, 0), 5);
    t.is("tags", x.story(0, 1), 3);
    t.is("rows", x.story(0, 3), 15);
    StoryDesk y = t.told("F:\nB:\nG a\nR:\nS:\nW b\nT c\nA d\n* e\nE:\n|n|\n|m|");
    t.is("dialect", y.look(5), 0);
    t.is("steps", y.story(0, 0), 5);
    String[] otherFirstLines = {"#1 1", "#11", "#", "# 1", "#2", "\n#1"};
    for (String first : otherFirstLines) {
      StoryDesk z = new StoryDesk();
      t.is("dialect 0 with " + first, t.read(z, first + "\nF:\nS:"), 0);
      t.is("told", z.look(5), 0);
    }
    t.is("words of 0 in 1", t.read(x, "#1\nP:\nC:\nG a\nF:\nR:\nB:\nS:\nE:\nW a\nT a\nA a\n* b\nS:"), 1);
    t.is("words of 1 in 0", t.read(x, "F:\nS:\nD a\nP:\nQ:\nH:\nC:\nX:\nN a\nZ a\nU a\nG b\nC:"), 1);
    t.is("they are OTHER, which may come behind SCENARIO", t.errors(x), "13:1");
  }

  /** Line by line: what may come in each of the states 0 to 8. */
  private static void states(Check t) {
    String[] ways = {"", "F:", "F:\nB:", "F:\nB:\nG a", "F:\nS:", "F:\nS:\nG a", "F:\nS:\nE:", "F:\nS:\nE:\n|a|", "F:\nR:"};
    String[] kinds = {"F:", "B:", "S:", "R:", "E:", "G a", "|a|", "x", "", "#", "@a"};
    String[] may = {
      "F", "BSRx", "GSRx", "G|SR", "GSREx", "G|SRE", "|SREx", "|SRE", "BSRx"
    };
    for (int state = 0; state < ways.length; state++) {
      for (String kind : kinds) {
        boolean always = kind.isEmpty() || kind.equals("#") || kind.equals("@a");
        boolean due = always || may[state].indexOf(kind.charAt(0)) >= 0;
        StoryDesk x = new StoryDesk();
        // A last FEATURE, which may come in state 0 alone, tells that a line left or changed it.
        t.put(x, ways[state] + "\n" + kind);
        x.read();
        int line = ways[state].split("\n", -1).length + 1;
        boolean refused = t.errors(x).contains(line + ":1");
        t.is("state " + state + " kind " + kind, refused ? 0 : 1, due ? 1 : 0);
      }
    }
    transitions(t);
  }

  private static void transitions(Check t) {
    StoryDesk x = new StoryDesk();
    t.is("STEP and ROW lead on", t.read(x, "F:\nB:\nG a\n|a|\n|b|\nW b\n|c|\nS:\nG c\n|a|\nG d\nE:\n|a|\n|b|\nE:\n|c|\n|d|\nS:\nR:\nB:\nG e\n|a|\nS:"), 0);
    t.is("ROW leads from 3 to 3", t.read(x, "F:\nB:\nG a\n|a|\nx\nE:\nB:"), 3);
    t.is("ROW leads from 5 to 5", t.read(x, "F:\nS:\nG a\n|a|\nx\nB:\nG a\nE:"), 2);
    t.is("ROW leads to 7", t.read(x, "F:\nS:\nE:\nx\n|a|\nx\nG a\nB:\nF:"), 4);
    t.is("OTHER leaves the state", t.read(x, "F:\nx\nB:\nx\nG a\nS:\nx\nG a\nE:\nx\n|a|\nR:\nx\nB:\nG a"), 0);
    t.is("an error leaves it", t.read(x, "F:\nE:\nB:\n|a|\nG a\nE:\n|a|\nS:"), 3);
    t.is("EMPTY leaves it", t.read(x, "F:\n\nB:\n#\nG a\n\n|a|\n\nS:"), 0);
    t.is("TAGS leave it", t.read(x, "F:\nS:\nE:\n|a|\n@a\nE:\n|a|"), 0);
    t.is("EXAMPLES without a STEP", t.read(x, "F:\nS:\nE:\n|a|\n|b|"), 0);
    t.is("no STEP behind EXAMPLES", t.read(x, "F:\nS:\nE:\nG a"), 1);
    t.is("no second BACKGROUND", t.read(x, "F:\nB:\nG a\nB:"), 1);
    t.is("no second FEATURE", t.read(x, "F:\nF:"), 1);
    t.is("no blank, no STEP", t.read(x, "F:\nS:\nG a\nG"), 1);
    t.is("blanks at the end do not make it one", t.read(x, "F:\nS:\nG a\nG  \n"), 1);
    t.is("no STEP by its sign alone", t.read(x, "F:\nS:\nG a\nGa"), 1);
    t.is("a second STEP of a BACKGROUND leaves the state", t.read(x, "F:\nB:\nG a\nG b\n|a|\nE:"), 1);
    t.is("small letters are OTHER", t.read(x, "f:"), 2);
    t.is("a colon must follow directly", t.read(x, "F :"), 2);
  }

  private static void stepsAfterTags(Check t) {
    StoryDesk x = new StoryDesk();
    t.is("tags, then FEATURE", t.read(x, "@a\n\n#x\n@b\nF:"), 0);
    t.is("tags, then each that may", t.read(x, "F:\n@a\nS:\nG a\n@a\nE:\n|a|\n@a\nR:\n@a\nS:"), 0);
    String[] notBehindTags = {"G b", "|b|", "B:", "x"};
    String[] before = {"F:\nS:\nG a", "F:\nS:\nG a", "F:", "F:"};
    for (int i = 0; i < notBehindTags.length; i++) {
      t.is("not behind tags: " + notBehindTags[i], t.read(x, before[i] + "\n" + notBehindTags[i] + "\nS:"), 0);
      t.is("not behind tags: " + notBehindTags[i], t.read(x, before[i] + "\n@a\n" + notBehindTags[i] + "\nS:"), 1);
      t.is("nor behind an empty line", t.read(x, before[i] + "\n@a\n\n" + notBehindTags[i] + "\nS:"), 1);
    }
    t.is("FEATURE only if it may come", t.read(x, "F:\n@a\nF:\nS:"), 1);
    t.is("EXAMPLES only if they may come", t.read(x, "F:\n@a\nE:\nS:"), 1);
    t.is("once they belong, all may come", t.read(x, "F:\n@a\nS:\nG a\n|a|"), 0);
  }

  private static void owners(Check t) {
    StoryDesk x = t.told("F:\nB:\nG f\nS:\nG s\nR:\nB:\nG r\nS:\nG t\nR:\nS:\nG u\nS:");
    t.is("first", t.stepText(x, 0, 0) + t.stepText(x, 0, 1), "fs");
    t.is("count", x.story(0, 0), 2);
    t.is("second", t.stepText(x, 1, 0) + t.stepText(x, 1, 1) + t.stepText(x, 1, 2), "frt");
    t.is("count", x.story(1, 0), 3);
    t.is("a RULE without a BACKGROUND", t.stepText(x, 2, 0) + t.stepText(x, 2, 1), "fu");
    t.is("count", x.story(2, 0), 2);
    t.is("a SCENARIO without STEPS has none at all", x.story(3, 0), 0);
    StoryDesk y = t.told("F:\nR:\nB:\nG r\n|1|\nS:\nG a\n|2|\n|3|");
    t.is("a RULE's BACKGROUND alone", t.stepText(y, 0, 0) + t.stepText(y, 0, 1), "ra");
    t.is("tables are those of their steps", y.step(0, 0, 1) * 10 + y.step(0, 1, 1), 12);
    t.is("cell", t.cellText(y, 0, 1, 1, 0), "3");
    StoryDesk w = t.told("F:\nB:\nG a\nG b\nS:\nG x\nR:\nB:\nG c\nG d\nG e\nS:\nG f\nG g\nR:\nB:\nG h\nS:\nG i");
    String[] due = {"abx", "abcdefg", "abhi"};
    for (int story = 0; story < due.length; story++) {
      t.is("steps of " + story, w.story(story, 0), due[story].length());
      for (int step = 0; step < due[story].length(); step++) {
        t.is("step " + step + " of " + story, w.step(story, step, 100), due[story].charAt(step));
      }
    }
    olderReadings(t);
  }

  private static void olderReadings(Check t) {
    StoryDesk x = t.told("F:\nS:\nG old\nR:\nB:\nG x\nS:\nG y\nE:\n|n|\n|1|\n@a\nE:\n|m|\n|2|");
    t.is("others", t.read(x, "F:\nS:\nG a\nR:\nS:\nG b\nE:\n|k|\n|3|"), 0);
    t.is("nothing is left of an older reading", x.story(0, 0) * 10 + x.story(1, 0), 11);
    t.is("cases", x.look(2), 2);
    t.is("the ROW", x.story(1, 3), 9);
    t.is("its tags", x.story(1, 1), 0);
    t.is("tags that wait at the end", t.read(x, "F:\n@a"), 1);
    t.is("are forgotten", t.read(x, "F:\nB:\nG a\nS:"), 0);
    t.is("and belong to nothing", x.story(0, 1), 0);
    for (int i = 0; i < 6; i++) {
      t.is("what counted in an older reading does not count", t.read(x, "F:\nR:\nS:\nG a\n||\nE:\n||\nE:\n||\nE:\n||"), 0);
    }
  }

  private static void caseCounts(Check t) {
    t.is("one without EXAMPLES", t.told("F:\nS:\nG a").look(2), 1);
    t.is("none with EXAMPLES without ROWS", t.told("F:\nS:\nG a\nE:").look(2), 0);
    t.is("none with NAMES alone", t.told("F:\nS:\nG a\nE:\n|a|").look(2), 0);
    StoryDesk x = t.told("F:\nS:\nE:\n|a|\n|1|\nE:\nE:\n|a|\n|2|\n|3|\nS:");
    t.is("one for each ROW", x.look(2), 4);
    t.is("in order", x.story(0, 3) * 10000 + x.story(1, 3) * 100 + x.story(2, 3), 50910);
    t.is("then the next SCENARIO", x.story(3, 2), 11);
    StoryDesk z = t.told("F:\nS:\nG <a>\nE:\n|a|\n|1|\nS:\nG <a>\nS:\nG <a>\nE:\n|a|\n|2|\nE:\n|a|\n|3|");
    String[] texts = {"1", "<a>", "2", "3"};
    for (int story = 0; story < texts.length; story++) {
      t.is("each SCENARIO has its own EXAMPLES", t.stepText(z, story, 0), texts[story]);
    }
    StringBuilder many = new StringBuilder("F:\nS:\nG <a>\nE:\n|a|");
    for (int i = 0; i < 26; i++) {
      many.append("\n|").append((char) ('a' + i)).append('|');
    }
    StoryDesk y = t.told(many + "\nS:");
    t.is("at most 24", y.look(2), 24);
    t.is("the first ones", t.stepText(y, 23, 0), "x");
    t.outOfBounds("no case 24", () -> y.story(24, 0));
  }

  /** What fits just so, and what is one too many (their errors stand in the test of promise 4). */
  private static void limits(Check t) {
    StoryDesk x = new StoryDesk();
    t.is("12 SCENARIOS", t.read(x, "F:" + "\nS:".repeat(12)), 0);
    t.is("12 cases", x.look(2), 12);
    t.is("30 STEPS", t.read(x, "F:\nS:" + "\nG a".repeat(30)), 0);
    t.is("30 steps", x.story(0, 0), 30);
    t.is("40 ROWS", t.read(x, "F:\nS:\nG a" + "\n||".repeat(40)), 0);
    t.is("40 rows", x.step(0, 0, 1), 40);
    t.is("12 EXAMPLES", t.read(x, "F:\nS:" + "\nE:".repeat(12)), 0);
    t.is("4 RULES", t.read(x, "F:" + "\nR:".repeat(4) + "\nB:\nG b\nS:\nG a"), 0);
    t.is("of the last RULE", t.stepText(x, 0, 0), "b");
    t.is("4 cells", t.read(x, "F:\nS:\nG a\n|a|b|c|d|"), 0);
    t.is("the fourth", t.cellText(x, 0, 0, 0, 3), "d");
  }

  private static void duringARun(Check t) {
    StoryDesk x = t.told("F:\nS:\nG a");
    x.start(1);
    t.put(x, "F:");
    t.wrongState("read during a run", x::read);
    t.is("the text stays", x.look(1), 2);
    t.is("the cases stay", x.look(2), 1);
    x.go(40);
    t.is("read behind the run", x.read(), 0);
    t.is("cases", x.look(2), 0);
  }
}
