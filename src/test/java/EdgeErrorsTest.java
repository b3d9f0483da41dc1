/** The edges of the ERRORS of a reading, and of what is cut off. */
public final class EdgeErrorsTest {
  private static final Edge T = new Edge();
  private static final String STEP = "F:\nS:\nG a";
  private static final String SIXTY = "0123456789".repeat(6);

  public static void main(String[] args) {
    countForNothing();
    theFirstOne();
    ofALine();
    tooMany();
    atTheEnd();
    cutOff();
    T.end();
  }

  private static void countForNothing() {
    T.sentence("ERRORS, each with its line, which counts for nothing else", () -> {
      T.errors("F:\n@a @q\nx\nS:\nx", "2:2");
      T.errors(STEP + "\n|a|b\n|c|\n|d|", "4:3");
      T.errors(STEP + "\n|a|\n@a\nW b\nS:\nW c\n|a|b|\n|c|", "6:1 10:4");
      T.errors(STEP + "\n|a|\n@a\nW b\nR:\nx\n|b|c|", "6:1 9:1");
      T.errors("F:\n@a\nx\n@b\nS:\n@c\nF:", "3:1 7:1 8:7");
      T.errors("F:\nE:\n|a|\nS:\nE:\n|a|", "2:1 3:1");
      T.errors("F:\nG a\n" + "G b\n".repeat(3) + "S:\n" + "G c\n".repeat(30), "2:1 3:1 4:1 5:1");
      T.errors("S:\nS:\nF:" + "\nS:".repeat(12), "1:1 2:1");
      T.errors("R:\nF:" + "\nR:".repeat(4), "1:1");
      T.errors("F:\nE:\nS:" + "\nE:".repeat(12), "2:1");
      T.errors(STEP + "\n|".repeat(3) + "\n||".repeat(40), "4:3 5:3 6:3");
    });
  }

  private static void theFirstOne() {
    T.sentence("the first one of these", () -> {
      T.errors("F:\n|a\n|a|b|c|d|e|", "2:1 3:1");
      T.errors(STEP + "\n|a|\n@a\n|a|b|\nS:", "6:1");
      T.errors(STEP + "\n||".repeat(40) + "\n@a\n||\nS:", "45:1");
      T.errors("F:\nS:" + "\nG a".repeat(30) + "\n@a\nG b\nS:", "34:1");
      T.errors("F:\nS:" + "\nE:".repeat(12) + "\nR:\nE:", "16:1");
      T.errors(STEP + "\n|a|\n|a|b|c|d|e|\n|a|b", "5:3 6:3");
      T.errors(STEP + "\n||".repeat(40) + "\n|\n||||||", "44:3 45:3");
      T.errors(STEP + "\n||".repeat(40) + "\n|||", "44:4");
    });
  }

  private static void ofALine() {
    T.sentence("1 it may not come", () -> {
      T.errors("F:\nF:", "2:1");
      T.errors("S:\nF:", "1:1");
      T.errors("x\nF:", "1:1");
      T.errors(STEP + "\nB:", "4:1");
    });
    T.sentence("2 TAGS with a word that is not as told", () -> {
      T.errors("@a @b @q\nF:", "1:2");
      T.errors("@a b\nF:", "1:2");
      T.errors("@a @b\nF:", "");
    });
    T.sentence("3 a ROW that does not end with another |, or has more than 4 cells", () -> {
      T.errors(STEP + "\n|", "4:3");
      T.errors(STEP + "\n|a|b", "4:3");
      T.errors(STEP + "\n||", "");
      T.errors(STEP + "\n|1|2|3|4|", "");
      T.errors(STEP + "\n|1|2|3|4|5|", "4:3");
      T.errors("F:\nS:\nE:\n|1|2|3|4|5|\n|1|2|3|4|\n|1", "4:3 6:3");
    });
    T.sentence("4 a ROW that has not as many cells as the first one (without an error) of its table", () -> {
      T.errors(STEP + "\n|a|b|\n|a|\n|a|b|c|\n|a|b|", "5:4 6:4");
      T.errors(STEP + "\n|a\n|a|b|c|d|e|\n|a|b|\n|a|", "4:3 5:3 7:4");
      T.errors(STEP + "\n|a|b|\nG b\n|a|\nE:\n|a|b|c|\nE:\n|a|\n|b|c|", "11:4");
      T.errors("F:\nS:\nE:\n|a|b|\n|a|", "5:4");
      T.errors("F:\nB:\nG a\n|a|\n|a|b|", "5:4");
    });
  }

  private static void tooMany() {
    T.sentence("5 it would be SCENARIO 13", () -> {
      T.errors("F:" + "\nS:".repeat(12), "");
      T.errors("F:" + "\nS:".repeat(14), "14:5 15:5");
      T.errors("F:" + "\nS:".repeat(6) + "\nR:" + "\nS:".repeat(6), "");
      T.errors("F:" + "\nS:".repeat(6) + "\nR:" + "\nS:".repeat(7), "15:5");
    });
    T.sentence("STEP 31", () -> {
      T.errors("F:\nS:" + "\nG a".repeat(30), "");
      T.errors("F:\nS:" + "\nG a".repeat(32), "33:5 34:5");
      T.errors("F:\nB:" + "\nG a".repeat(10) + "\nS:" + "\nG a".repeat(10) + "\nS:" + "\nG a".repeat(10), "");
      T.errors("F:\nB:" + "\nG a".repeat(10) + "\nS:" + "\nG a".repeat(10) + "\nS:" + "\nG a".repeat(11), "35:5");
    });
    T.sentence("ROW 41", () -> {
      T.errors(STEP + "\n||".repeat(40), "");
      T.errors(STEP + "\n||".repeat(42), "44:5 45:5");
      T.errors(STEP + "\n||".repeat(20) + "\nG b" + "\n||".repeat(10) + "\nE:" + "\n||".repeat(10), "");
      T.errors(STEP + "\n||".repeat(20) + "\nG b" + "\n||".repeat(10) + "\nE:" + "\n||".repeat(11), "46:5");
    });
    T.sentence("EXAMPLES 13", () -> {
      T.errors("F:\nS:" + "\nE:".repeat(12), "");
      T.errors("F:\nS:" + "\nE:".repeat(14), "15:5 16:5");
      T.errors("F:\nS:" + "\nE:".repeat(6) + "\nS:" + "\nE:".repeat(6), "");
      T.errors("F:\nS:" + "\nE:".repeat(6) + "\nS:" + "\nE:".repeat(7), "16:5");
    });
    T.sentence("or RULE 5", () -> {
      T.errors("F:" + "\nR:".repeat(4), "");
      T.errors("F:" + "\nR:".repeat(6), "6:5 7:5");
      T.errors("F:\nR:\nR:\nS:\nR:\nR:\nS:\nR:", "8:5");
    });
  }

  private static void atTheEnd() {
    T.sentence("At the end, with the line number behind the last one", () -> {
      T.errors("#", "2:6");
      T.errors("#\n#", "3:6");
      T.errors("#\n", "3:6");
      T.errors("F:\n@a\n#", "4:7");
    });
    T.sentence("6 if there was no FEATURE", () -> {
      T.errors("", "2:6");
      T.errors("@q\nS:", "1:2 2:1 3:6");
      T.errors("S:\nF:", "1:1");
      T.errors("F:", "");
    });
    T.sentence("7 if tags belong to nothing.", () -> {
      T.errors("F:\n@a", "3:7");
      T.errors("@a", "2:6 2:7");
      T.errors("F:\nS:\nE:\n@a\n@b\n\n", "8:7");
      T.errors("F:\n@a\nS:", "");
      T.errors("F:\n@q", "2:2");
    });
    T.sentence("Errors behind the 20th are passed over.", () -> {
      StoryDesk x = T.desk();
      T.is("20", T.read(x, "F:" + "\nE:".repeat(20)), 20);
      T.is("the 20th", x.error(19, 0), 21);
      T.is("21", T.read(x, "F:" + "\nE:".repeat(21)), 20);
      T.is("the 20th", x.error(19, 0), 21);
      T.is("look", x.look(7), 20);
      T.outOfBounds("no 21st", () -> x.error(20, 0));
      T.is("at the end, too", T.read(x, "@a" + "\nx".repeat(19)), 20);
      T.is("the 20th is that of no FEATURE", x.error(19, 0) * 10 + x.error(19, 1), 216);
      T.is("both of the end", T.read(x, "@a" + "\nx".repeat(20)), 20);
      T.is("are passed over", x.error(19, 0) * 10 + x.error(19, 1), 211);
      T.is("nothing counts up behind them", T.read(x, "F:\nS:"), 0);
    });
  }

  private static void cutOff() {
    T.sentence("A STEP's text's and a cell's characters behind the 60th are cut off.", () -> {
      T.steps("F:\nS:\nG " + SIXTY, "[" + SIXTY + "]");
      T.steps("F:\nS:\nG " + SIXTY + "a\nG " + SIXTY + SIXTY, "[" + SIXTY + "," + SIXTY + "]");
      T.steps("F:\nB:\nG " + SIXTY + "a\nS:\nG b", "[" + SIXTY + ",b]");
      T.tables("F:\nS:\nG a\n|" + SIXTY + "|b|\n|" + SIXTY + "a| " + SIXTY + SIXTY + "|", "[" + SIXTY + ",b/" + SIXTY + "," + SIXTY + "]");
      T.steps("F:\nS:\nG <n>\nE:\n|n|\n|" + SIXTY + "a|", "[" + SIXTY + "]");
      T.steps("F:\nS:\nG <n>" + SIXTY + "\nE:\n|n|\n||", "[" + SIXTY.substring(0, 57) + "]");
      T.tables("F:\nS:\nG a\n|<n>" + SIXTY + "|\nE:\n|n|\n||", "[" + SIXTY.substring(0, 57) + "]");
      T.steps("F:\nS:\nG " + SIXTY.substring(1) + " a\nG " + SIXTY.substring(2) + "<n>\nE:\n|n|\n|b|",
          "[" + SIXTY.substring(1) + " ," + SIXTY.substring(2) + "<n]");
    });
  }
}
