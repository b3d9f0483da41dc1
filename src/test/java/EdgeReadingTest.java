/** The edges of READING: the states, what may come in them, TAGS, and to what lines belong. */
public final class EdgeReadingTest {
  private static final Edge T = new Edge();

  public static void main(String[] args) {
    states();
    ways();
    tags();
    waitingTags();
    leaving();
    owners();
    T.end();
  }

  private static void states() {
    T.sentence("READING begins in the state 0.", () -> {
      T.is("at first", T.mayCome(""), "F@");
      StoryDesk x = T.told("F:\nS:\nG a");
      T.is("another reading", T.read(x, "S:\nG a"), 3);
      T.is("begins there again", T.errors(x), "1:1 2:1 3:6");
      T.is("and so a FEATURE may come", T.read(x, "F:"), 0);
    });
    String[] words = {
      "0: FEATURE.", "1: BACKGROUND SCENARIO RULE OTHER.", "2: STEP SCENARIO RULE OTHER.", "3: STEP ROW SCENARIO RULE.",
      "4: STEP SCENARIO RULE EXAMPLES OTHER.", "5: STEP ROW SCENARIO RULE EXAMPLES.", "6: ROW SCENARIO RULE EXAMPLES OTHER.",
      "7: ROW SCENARIO RULE EXAMPLES.", "8: BACKGROUND SCENARIO RULE OTHER."
    };
    for (int state = 0; state < words.length; state++) {
      int here = state;
      T.sentence(words[state], () -> T.is("state " + here, T.mayCome(Edge.STATES[here]), Edge.MAY_COME[here]));
    }
    T.sentence("In a state those kinds MAY COME that are told here, and EMPTY", () -> {
      for (String way : Edge.STATES) {
        String errors = T.errorsOf(way);
        T.is("EMPTY lines behind " + way, T.errorsOf(way + "\n\n  \n#\n#x").replace("6:6", "2:6"), errors);
      }
    });
  }

  /** Each kind that leads to a state, from each state in which it may come. */
  private static void ways() {
    leads("FEATURE leads to state 1", "F:", 1, 0);
    leads("BACKGROUND to 2", "B:", 2, 1, 8);
    leads("its STEP to 3", "W b", 3, 2, 3);
    leads("(its ROW too)", "|a|", 3, 3);
    leads("SCENARIO to 4", "S:", 4, 1, 2, 3, 4, 5, 6, 7, 8);
    leads("its STEP (and ROW) to 5", "W b", 5, 4, 5);
    leads("its STEP (and ROW) to 5", "|a|", 5, 5);
    leads("EXAMPLES to 6", "E:", 6, 4, 5, 6, 7);
    leads("its ROW to 7", "|a|", 7, 6, 7);
    leads("RULE to 8", "R:", 8, 1, 2, 3, 4, 5, 6, 7, 8);
  }

  private static void leads(String words, String line, int to, int... from) {
    T.sentence(words, () -> {
      for (int state : from) {
        T.is(line + " in state " + state, T.mayCome(Edge.STATES[state] + "\n" + line), Edge.MAY_COME[to]);
      }
    });
  }

  private static void tags() {
    T.sentence("TAGS may come in each of them", () -> {
      for (String way : Edge.STATES) {
        T.no("TAGS behind " + way, T.errorsOf(way + "\n@a\n@b @c").contains(":1"));
      }
    });
    T.sentence("behind TAGS (and EMPTY lines behind them) only TAGS, EMPTY lines, and FEATURE, SCENARIO, RULE and EXAMPLES, if they may come", () -> {
      String[] may = {"F@", "SR@", "SR@", "SR@", "SRE@", "SRE@", "SRE@", "SRE@", "SR@"};
      for (int state = 0; state < may.length; state++) {
        T.is("state " + state, T.mayCome(Edge.STATES[state] + "\n@a"), may[state]);
        T.is("state " + state + " and EMPTY", T.mayCome(Edge.STATES[state] + "\n@a\n\n#\n  "), may[state]);
        T.is("state " + state + " and TAGS", T.mayCome(Edge.STATES[state] + "\n@a\n#\n@b"), may[state]);
      }
    });
    T.sentence("to which the tags then belong", () -> {
      T.tags("@a\nF:\n@b\nR:\n@c\nS:\n@d\nE:\n|n|\n|m|", "abcd");
      T.tags("@a\n\n#\nF:\n@b\n\nS:", "ab");
      T.tags("F:\n@a\nS:\nS:\n@b\nS:", "a - b");
      T.tags("F:\n@a\nR:\nS:\nS:\nR:\nS:", "a a -");
      T.tags("F:\nS:\n@a\nE:\n|n|\n|1|\n|2|\nE:\n|n|\n|3|", "a a -");
      for (int state : new int[] {1, 2, 3, 4, 5, 6, 7, 8}) {
        T.is("all may come again behind tags and SCENARIO", T.mayCome(Edge.STATES[state] + "\n@a\nS:"), Edge.MAY_COME[4]);
      }
    });
    T.sentence("(those of several TAGS lines, all", () -> {
      T.tags("@a\n@b\n\n@c @d\n#\n@p\nF:\nS:", "abcdp");
      T.tags("F:\n@a\n@b\nS:\n@c\n@d\nE:\n|n|\n|1|", "abcd");
    });
  }

  private static void waitingTags() {
    T.sentence("they wait on behind lines with an error", () -> {
      T.errors("F:\n@a\nx", "3:1 4:7");
      T.errors("F:\n@a\nx\n\nx\nG a\nS:\nx", "3:1 5:1 6:1");
      T.errors("@a\nS:\nF:\nx", "2:1");
      T.errors("F:\n@a\n@q\nx", "3:2 4:1 5:7");
      T.errors("F:\nS:\nG a\n@a\n|a|\n|a\nW b\nE:\n|a|", "5:1 6:1 7:1");
    });
    T.sentence("also of that to which they would belong", () -> {
      T.errors("F:" + "\nS:".repeat(12) + "\n@a\nS:", "15:5 16:7");
      T.errors("F:" + "\nS:".repeat(12) + "\n@a\nS:\nG a\nR:\nS:", "15:5 16:1 18:5");
      T.errors("F:\nS:" + "\nE:".repeat(12) + "\n@a\nE:\n|a|", "16:5 17:1 18:7");
      T.errors("F:" + "\nR:".repeat(4) + "\n@a\nR:\nx", "7:5 8:1 9:7");
      T.errors("F:\n@a\nF:\nx\nS:\nx", "3:1 4:1");
      T.errors("F:\n@a\nE:\nS:", "3:1");
    });
  }

  private static void leaving() {
    T.sentence("(TAGS, OTHER and lines with an error leave the state.", () -> {
      for (int state : new int[] {1, 2, 4, 6, 8}) {
        T.is("OTHER in state " + state, T.mayCome(Edge.STATES[state] + "\nx\nx"), Edge.MAY_COME[state]);
      }
      String[] wrong = {"@q", "|a|b|c|d|e|", "|a", "E:", "F:", "B:", "G a", "x", "|a|"};
      for (int state = 0; state < Edge.STATES.length; state++) {
        for (String line : wrong) {
          String text = Edge.STATES[state] + "\n" + line;
          if (T.errorsOf(text).contains(text.split("\n", -1).length + ":")) {
            T.is("an error in state " + state + ": " + line, T.mayCome(text), Edge.MAY_COME[state]);
          }
        }
      }
      T.is("TAGS in state 5", T.errorsOf("F:\nS:\nG a\n@a\nE:"), "");
      T.is("TAGS in state 4", T.errorsOf("F:\nS:\n@a\nE:"), "");
      T.is("TAGS in state 7", T.errorsOf("F:\nS:\nE:\n|a|\n@a\nE:"), "");
      T.is("TAGS in state 0", T.errorsOf("@a\nF:"), "");
      fullOnes();
    });
  }

  /** Lines that would be one too many leave the state, too. */
  private static void fullOnes() {
    String scenarios = "F:" + "\nS:".repeat(12);
    T.is("SCENARIO 13 in state 5", T.mayCome(scenarios + "\nG a\nS:"), Edge.MAY_COME[5]);
    T.is("SCENARIO 13 in state 8", T.mayCome(scenarios + "\nR:\nS:"), Edge.MAY_COME[8]);
    T.is("RULE 5 in state 4", T.mayCome("F:" + "\nR:".repeat(4) + "\nS:\nR:"), Edge.MAY_COME[4]);
    T.is("EXAMPLES 13 in state 7", T.mayCome("F:\nS:" + "\nE:".repeat(12) + "\n|a|\nE:"), Edge.MAY_COME[7]);
    String steps = "F:\nS:" + "\nG a".repeat(30);
    T.is("STEP 31 in state 4", T.mayCome(steps + "\nS:\nG a"), Edge.MAY_COME[4]);
    T.is("STEP 31 in state 2", T.mayCome(steps + "\nR:\nB:\nG a"), Edge.MAY_COME[2]);
    String rows = "F:\nS:\nG a" + "\n||".repeat(40);
    T.is("ROW 41 in state 6", T.mayCome(rows + "\nE:\n||"), Edge.MAY_COME[6]);
  }

  private static void owners() {
    T.sentence("ROWS are those of the latest STEP or EXAMPLES: its table.", () -> {
      T.tables("F:\nB:\nG a\n|1|\nG b\nS:\nG c\nG d\n|2|3|\n|4|5|\nG e\n|6|", "[1;;;2,3/4,5;6]");
      T.tables("F:\nB:\nG a\n|1|\nG b\n|2|\n|3|\nS:\nG c\n|4|\nS:\nG d\nG e\n|5|", "[1;2/3;4][1;2/3;;5]");
      T.tables("F:\nS:\nG a\n|1|\nE:\n|n|\n|m|\nE:\n|k|l|\n|i|j|", "[1][1]");
      T.lines("F:\nS:\nG a\n|1|\n|2|\nE:\n|n|\n|m|\n\n|o|\nE:\n|k|\n|i|", "2/8 2/10 2/13");
    });
    T.sentence("STEPS and EXAMPLES are those of the latest BACKGROUND or SCENARIO", () -> {
      T.steps("F:\nB:\nG a\nG b\nS:\nG c\nS:\nG d\nG e\nR:\nB:\nG f\nS:\nG g", "[a,b,c][a,b,d,e][a,b,f,g]");
      T.steps("F:\nS:\nG a\nE:\n|n|\n|1|\nS:\nG b\nS:\nG c\nE:\n|n|\n|2|\nE:\n|n|\n|3|", "[a][b][c][c]");
      T.lines("F:\nS:\nE:\n|n|\n|1|\nS:\nS:\nE:\n|n|\n|2|", "2/5 6/0 7/10");
    });
    T.sentence("a BACKGROUND is that of the latest RULE, before the first one that of the FEATURE.", () -> {
      T.steps("F:\nB:\nG a\nS:\nG b\nR:\nB:\nG c\nS:\nG d\nR:\nS:\nG e\nR:\nB:\nG f\nS:\nG g", "[a,b][a,c,d][a,e][a,f,g]");
      T.steps("F:\nR:\nB:\nG a\nS:\nG b\nS:\nG c\nS:\nG d\nR:\nS:\nG e", "[a,b][a,c][a,d][e]");
      T.steps("F:\nB:\nR:\nS:\nG a\nR:\nB:\nS:\nG b", "[a][b]");
    });
  }
}
