/** Promise 12: cell tells the characters of the cells of a step's table. */
public final class Promise12CellTest {
  public static void main(String[] args) {
    Check t = new Check();
    tables(t);
    names(t);
    cuts(t);
    bounds(t);
    t.end();
  }

  private static void tables(Check t) {
    StoryDesk x = t.told("F:\nB:\nG a\n|b|\nS:\nG c\n|  d e | <f> |\n||#|\n\n| @ | {} |\nG g\n|1|2|3|4|");
    String[][] due = {{"d e", "<f>"}, {"", "#"}, {"@", "{}"}};
    t.is("of the BACKGROUND", t.cellText(x, 0, 0, 0, 0), "b");
    for (int r = 0; r < 3; r++) {
      for (int c = 0; c < 2; c++) {
        String text = due[r][c];
        t.is("cell", t.cellText(x, 0, 1, r, c), text);
        t.is("behind its end", x.cell(0, 1, r, c, text.length()), -1);
        t.is("far behind it", x.cell(0, 1, r, c, 60), -1);
      }
    }
    for (int c = 0; c < 4; c++) {
      t.is("of the next step", x.cell(0, 2, 0, c, 0), '1' + c);
    }
  }

  private static void names(Check t) {
    StoryDesk x = t.told("F:\nB:\nG a\n|<n>|\nS:\nG c\n|<n>|<m>|\n|x<n>y|<o>|\nE:\n|n|m|\n|1||\n|<m>|3|\nS:\nG c\n|<n>|");
    t.is("of the BACKGROUND", t.cellText(x, 0, 0, 0, 0), "<n>");
    t.is("first ROW", t.cellText(x, 0, 1, 0, 0), "1");
    t.is("empty", t.cellText(x, 0, 1, 0, 1), "");
    t.is("within", t.cellText(x, 0, 1, 1, 0), "x1y");
    t.is("no NAME", t.cellText(x, 0, 1, 1, 1), "<o>");
    t.is("second ROW", t.cellText(x, 1, 1, 1, 0), "x<m>y");
    t.is("second ROW", t.cellText(x, 1, 1, 0, 1), "3");
    t.is("without EXAMPLES", t.cellText(x, 2, 1, 0, 0), "<n>");
    StoryDesk y = t.told("F:\nS:\nG c\n|<n>|2|\nE:\n|n|\n|40|\n|x|");
    t.define(y, "c", 0);
    t.script(y, 0, 5, 0);
    y.start(1);
    y.go(2);
    t.is("NUMBER with the cell that came in", y.world(0), 42);
    y.go(3);
    t.is("and without a number", y.world(0), 2);
  }

  private static void cuts(Check t) {
    String sixty = "0123456789".repeat(6);
    StoryDesk x = t.told("F:\nS:\nG c\n|" + sixty + "|\n|" + sixty + "x|\n|<n>yz|\nE:\n|n|\n|" + sixty.substring(1) + "|");
    t.is("60 stay", t.cellText(x, 0, 0, 0, 0), sixty);
    t.is("the 61st is cut off", t.cellText(x, 0, 0, 1, 0), sixty);
    t.is("and behind what came in", t.cellText(x, 0, 0, 2, 0), sixty.substring(1) + "y");
    t.is("character 59", x.cell(0, 0, 1, 0, 59), '9');
    t.is("character 60", x.cell(0, 0, 1, 0, 60), -1);
  }

  private static void bounds(Check t) {
    StoryDesk x = new StoryDesk();
    t.outOfBounds("without cases", () -> x.cell(0, 0, 0, 0, 0));
    t.read(x, "F:\nS:\nG a\n|1|2|\n|3|4|\nG b\nG c\n|5|\nS:");
    t.is("the last one", x.cell(0, 0, 1, 1, 0), '4');
    int[][] wrong = {
      {-1, 0, 0, 0, 0}, {2, 0, 0, 0, 0}, {1, 0, 0, 0, 0}, {0, -1, 0, 0, 0}, {0, 3, 0, 0, 0}, {0, 0, -1, 0, 0}, {0, 0, 2, 0, 0},
      {0, 0, 0, -1, 0}, {0, 0, 0, 2, 0}, {0, 0, 0, 0, -1}, {0, 0, 0, 0, 61}, {0, 1, 0, 0, 0}, {0, 2, 0, 1, 0}, {0, 2, 1, 0, 0}
    };
    for (int[] at : wrong) {
      t.outOfBounds("no such cell", () -> x.cell(at[0], at[1], at[2], at[3], at[4]));
    }
    int[] far = {Integer.MAX_VALUE, Integer.MIN_VALUE};
    for (int one : far) {
      t.outOfBounds("case " + one, () -> x.cell(one, 0, 0, 0, 0));
      t.outOfBounds("step " + one, () -> x.cell(0, one, 0, 0, 0));
      t.outOfBounds("row " + one, () -> x.cell(0, 0, one, 0, 0));
      t.outOfBounds("column " + one, () -> x.cell(0, 0, 0, one, 0));
      t.outOfBounds("character " + one, () -> x.cell(0, 0, 0, 0, one));
    }
  }
}
