/** The edges of CASES: how many there are, their tags and steps, and the NAMES in them. */
public final class EdgeCasesTest {
  private static final Edge T = new Edge();
  private static final String FIFTY = "0123456789".repeat(5);
  private static final String SIXTY = "0123456789".repeat(6);

  public static void main(String[] args) {
    counts();
    tags();
    steps();
    names();
    severalNames();
    cutOff();
    T.end();
  }

  private static int cases(String text) {
    return T.told(text).look(2);
  }

  private static void counts() {
    T.sentence("CASES, if there are no errors", () -> {
      StoryDesk x = T.told("F:\nS:\nS:");
      T.is("two", x.look(2), 2);
      T.is("one error", T.read(x, "F:\nS:\nS:\nB:"), 1);
      T.is("none", x.look(2), 0);
      T.is("an error at the end", T.read(x, "F:\nS:\n@a"), 1);
      T.is("none", x.look(2), 0);
      T.is("no errors", T.read(x, "F:\nS:"), 0);
      T.is("one", x.look(2), 1);
    });
    T.sentence("for each SCENARIO in order; without EXAMPLES one", () -> {
      T.lines("F:", "");
      T.lines("F:\nS:", "2/0");
      T.lines("F:\nS:\nG a\nR:\nS:\nS:\nG b", "2/0 5/0 6/0");
    });
    T.sentence("else for each of its EXAMPLES, for each ROW behind the first one (that has NAMES), one", () -> {
      T.lines("F:\nS:\nE:\n|n|\n|1|", "2/5");
      T.lines("F:\nS:\nE:\n|n|\n|1|\n|2|\n\n|3|\nE:\n|n|\n|4|\nS:\nS:\nE:\n|n|\n|5|", "2/5 2/6 2/8 2/11 12/0 13/16");
    });
    T.sentence("(none without such ROWS)", () -> {
      T.is("without ROWS", cases("F:\nS:\nG a\nE:"), 0);
      T.is("with NAMES alone", cases("F:\nS:\nG a\nE:\n|n|"), 0);
      T.lines("F:\nS:\nE:\nE:\n|n|\nE:\n|n|\n|1|\nE:\nS:", "2/8 10/0");
    });
    T.sentence("at most 24 in all (further ones are left out without an error).", () -> {
      String rows = "F:\nS:\nE:\n|n|" + "\n|m|".repeat(23);
      T.is("23", cases(rows), 23);
      T.is("24", cases(rows + "\nS:"), 24);
      T.is("25", cases(rows + "\nS:\nS:"), 24);
      T.is("more", cases(rows + "\n|m|".repeat(10) + "\nE:\n|n|\n|m|\nS:\nS:"), 24);
      StoryDesk x = T.told(rows + "\nS:\nS:");
      T.is("the 24th", x.story(23, 2), 28);
      T.outOfBounds("no 25th", () -> x.story(24, 2));
      T.is("nor in a run", x.start(1), 24);
    });
  }

  private static void tags() {
    T.sentence("Its tags: those of the FEATURE, its RULE, the SCENARIO and its EXAMPLES.", () -> {
      T.tags("@a\nF:\n@b\nS:\n@c\nR:\n@d\nS:\n@e\nE:\n|n|\n|1|\n@f\nE:\n|n|\n|2|\nS:\nR:\nS:", "ab acde acdf ac a");
      T.tags("F:\nS:", "-");
      T.tags("@a\nF:\n@a\nR:\n@a\nS:\n@a\nE:\n|n|\n|1|", "a");
      StoryDesk x = T.told("@a\nF:\n@b\nR:\n@c\nS:\n@d\nE:\n|n|\n|1|");
      T.read(x, "F:\nR:\nS:\nE:\n|n|\n|1|");
      T.is("not those of an older reading", x.story(0, 1), 0);
      T.is("tags that belong to nothing", T.read(x, "F:\n@e"), 1);
      T.read(x, "F:\nS:");
      T.is("are not those of the next reading", x.story(0, 1), 0);
    });
  }

  private static void steps() {
    T.sentence("Its steps: if the SCENARIO has some", () -> {
      T.steps("F:\nB:\nG a\nR:\nB:\nG b\nS:\nS:\nG c\nS:\nE:\n|n|\n|1|", "[][a,b,c][]");
    });
    T.sentence("those of the FEATURE's BACKGROUND, of its RULE's, its own, in order, with the ROWS behind them as their tables", () -> {
      T.steps("F:\nB:\nG a\nG b\nS:\nG c\nR:\nB:\nG d\nG e\nS:\nG f\nG g\nS:\nG h", "[a,b,c][a,b,d,e,f,g][a,b,d,e,h]");
      T.tables("F:\nB:\nG a\n|1|\nR:\nB:\nG b\n|2|3|\n|4|5|\nS:\nG c\nG d\n|6|", "[1;2,3/4,5;;6]");
      T.steps("F:\nR:\nB:\nG a\nR:\nS:\nG b\nR:\nB:\nG c\nS:\nG d\nS:\nG e", "[b][c,d][c,e]");
      StoryDesk x = T.told("F:\nB:\nG a\nR:\nB:\nG b\nS:\nG c\n|1|");
      T.read(x, "F:\nR:\nS:\nG d");
      T.is("nothing of an older reading", x.story(0, 0) * 10 + x.step(0, 0, 1), 10);
    });
  }

  /** The text of one step with one ROW of EXAMPLES, told as NAMES and cells. */
  private static void filled(String text, String names, String cells, String due) {
    T.steps("F:\nS:\nG " + text + "\nE:\n" + names + "\n" + cells, "[" + due + "]");
  }

  private static void names() {
    T.sentence("With EXAMPLES, in the texts and tables' cells of its own steps", () -> {
      T.steps("F:\nB:\nG <n>\nS:\nG <n>\nE:\n|n|\n|1|\n|2|\nS:\nG <n>", "[<n>,1][<n>,2][<n>,<n>]");
      T.steps("F:\nR:\nB:\nG <n>\nS:\nG <n>\nE:\n|n|\n|1|", "[<n>,1]");
      T.tables("F:\nB:\nG a\n|<n>|\nS:\nG b\n|<n>|x<n>|\n|c|<n>y|\nE:\n|n|\n|1|\n||\nS:\nG c\n|<n>|", "[<n>;1,x1/c,1y][<n>;,x/c,y][<n>;<n>]");
      T.steps("F:\nS:\nG <n> <m>\nE:\n|n|\n|1|\nE:\n|m|\n|2|", "[1 <m>][<n> 2]");
    });
    T.sentence("from the left: where < comes, and a NAME", () -> {
      filled("<n>", "|n|", "|1|", "1");
      filled("a<n>b<m><n>", "|n|m|", "|1|22|", "a1b221");
      filled("n> <N> <m>", "|n|", "|1|", "n> <N> <m>");
      filled("<<n>>", "|n|", "|1|", "<1>");
      filled("<n<n>", "|n|n<n|", "|1|2|", "2");
      filled("< n> <nn> <a b>", "|n|a b|", "|1|2|", "< n> <nn> 2");
    });
    T.sentence("(perhaps of no characters)", () -> {
      filled("<>", "||", "|1|", "1");
      filled("a<>b<n><>", "|n||", "|1|2|", "a2b12");
      filled("<>", "|n|", "|1|", "<>");
      filled("< > <<>", "||", "|1|", "< > <1");
    });
    T.sentence("and > directly behind it", () -> {
      filled("<n", "|n|", "|1|", "<n");
      filled("<n >", "|n|", "|1|", "<n >");
      filled("<n<", "|n|", "|1|", "<n<");
      filled("<", "||", "|1|", "<");
      filled("<nm>", "|n|", "|1|", "<nm>");
      filled("<n>>", "|n|", "|1|", "1>");
    });
    T.sentence("all that becomes the row's cell of that NAME", () -> {
      filled("<n><n>", "|n|", "||", "");
      filled("<b>", "|a|b|c|d|", "|1|2|3|4|", "2");
      filled("<d>", "|a|b|c|d|", "|1|2|3|4|", "4");
      filled("a <n> b", "|n|", "|  1  2  |", "a 1  2 b");
    });
  }

  private static void severalNames() {
    T.sentence("(of several the first one)", () -> {
      filled("<n>", "|n|n|", "|1|2|", "1");
      filled("<n>", "|m|n|n|n|", "|1|2|3|4|", "2");
      filled("<n>m>", "|n|n>m|", "|1|2|", "1m>");
      filled("<n>m>", "|n>m|n|", "|1|2|", "1");
      filled("<>", "|||", "|1|2|", "1");
    });
    T.sentence("what has come in is not looked at again", () -> {
      filled("<n>", "|n|m|", "|<m>|2|", "<m>");
      filled("<n>", "|n|", "|<n>|", "<n>");
      filled("<n>m>", "|n|m|", "|<|2|", "<m>");
      filled("<<n>>", "|n|1|", "|1|2|", "<1>");
      filled("<n><m>", "|n|m|xm|", "|<x|>|3|", "<x>");
    });
  }

  private static void cutOff() {
    T.sentence("what is behind the 60th character then is cut off again.", () -> {
      filled(FIFTY + "<n>", "|n|", "|0123456789|", SIXTY);
      filled(FIFTY + "<n>", "|n|", "|0123456789a|", SIXTY);
      filled(FIFTY + "<n>", "|n|", "|012345678|", FIFTY + "012345678");
      filled("<n>" + FIFTY, "|n|", "|" + FIFTY + "|", FIFTY + "0123456789");
      filled("<n>" + SIXTY.substring(3), "|n|", "|0|", "0" + SIXTY.substring(3));
      filled("<n>ab", "|n|", "|" + SIXTY + "|", SIXTY);
      T.tables("F:\nS:\nG a\n|<n>ab|\nE:\n|n|\n|" + SIXTY.substring(1) + "|", "[" + SIXTY.substring(1) + "a]");
      filled(FIFTY + "0123456<n>", "|n|", "||", FIFTY + "0123456");
      filled(FIFTY + "01234567<n>", "|n|", "||", FIFTY + "01234567<n");
    });
  }
}
