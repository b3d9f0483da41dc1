/** Promise 4: error tells the line and the number of each error of the latest reading. */
public final class Promise04ErrorTest {
  public static void main(String[] args) {
    Check t = new Check();
    eachNumber(t);
    tags(t);
    rows(t);
    order(t);
    tooMany(t);
    waitingTags(t);
    atMostTwenty(t);
    bounds(t);
    t.end();
  }

  private static void due(Check t, String text, String errors) {
    StoryDesk x = new StoryDesk();
    int count = t.read(x, text);
    t.is("errors of " + text, t.errors(x), errors);
    t.is("count of " + text, count, errors.isEmpty() ? 0 : errors.split(" ").length);
  }

  private static void eachNumber(Check t) {
    due(t, "F:\nS:\nG a", "");
    due(t, "F:\nE:", "2:1");
    due(t, "@q\nF:", "1:2");
    due(t, "F:\nS:\nG a\n|a", "4:3");
    due(t, "F:\nS:\nG a\n|a|\n|a|b|", "5:4");
    due(t, "", "2:6");
    due(t, "\n", "3:6");
    due(t, "\n\n#x", "4:6");
    due(t, "F:\n@a", "3:7");
    due(t, "F:\n@a\n", "4:7");
    due(t, "@a", "2:6 2:7");
  }

  private static void tags(Check t) {
    due(t, "@a @b  @p\nF:", "");
    due(t, "@\nF:", "1:2");
    due(t, "@ab\nF:", "1:2");
    due(t, "@a@b\nF:", "1:2");
    due(t, "@a b\nF:", "1:2");
    due(t, "@a @\nF:", "1:2");
    due(t, "@a #x\nF:", "1:2");
    due(t, "@A\nF:", "1:2");
    due(t, "@`\nF:", "1:2");
    due(t, "@a @q\nF:", "1:2");
    due(t, "@a @@\nF:", "1:2");
    due(t, "@1\nF:", "1:2");
  }

  private static void rows(Check t) {
    String before = "F:\nS:\nG a\n";
    due(t, before + "|", "4:3");
    due(t, before + "|a|b", "4:3");
    due(t, before + "||", "");
    due(t, before + "| | | | |", "");
    due(t, before + "|a|b|c|d|e|", "4:3");
    due(t, before + "|||||||", "4:3");
    due(t, before + "|a|b|\n|a|\n|a|b|c|\n|c|d|", "5:4 6:4");
    due(t, before + "|a\n|a|\n|a|b|\n|c|", "4:3 6:4");
    due(t, before + "|a|\nG b\n|a|b|\n|c|", "7:4");
    due(t, "F:\nS:\nE:\n|a|\n|a|b|\nE:\n|a|b|\n|c|", "5:4 8:4");
    // A STEP with an error counts for nothing: the ROW is of the STEP before it.
    due(t, before + "|a|\n@a\nG b\nS:\nG c\n|a|b|", "6:1");
  }

  private static void order(Check t) {
    due(t, "F:\n|a", "2:1");
    due(t, "F:\nS:\nG a\n@a\n|a\nS:", "5:1");
    due(t, "F:\nS:\nG a\n|a|\n|a|b|c|d|e|", "5:3");
    String many = "F:\nS:\nG a" + "\n||".repeat(40);
    due(t, many + "\n||", "44:5");
    due(t, many + "\n|a|b|", "44:4");
    due(t, many + "\n|a", "44:3");
    due(t, "F:" + "\nS:".repeat(12) + "\n@a\nS:", "15:5 16:7");
    due(t, "F:\nS:" + "\nG a".repeat(30) + "\n@a\nG b\nS:", "34:1");
  }

  private static void tooMany(Check t) {
    due(t, "F:" + "\nS:".repeat(13), "14:5");
    due(t, "F:\nS:" + "\nG a".repeat(31), "33:5");
    due(t, "F:\nB:" + "\nG a".repeat(15) + "\nS:" + "\nG a".repeat(17), "34:5 35:5");
    due(t, "F:\nS:\nG a" + "\n||".repeat(42), "44:5 45:5");
    due(t, "F:\nS:\nG a" + "\n||".repeat(20) + "\nE:" + "\n||".repeat(21), "45:5");
    due(t, "F:\nS:" + "\nE:".repeat(13), "15:5");
    due(t, "F:\nS:" + "\nE:".repeat(6) + "\nS:" + "\nE:".repeat(7), "16:5");
    due(t, "F:" + "\nR:".repeat(5), "6:5");
    due(t, "F:" + "\nR:".repeat(4) + "\nR:\nR:", "6:5 7:5");
    // Lines with an error are not counted.
    due(t, "F:\n@a\nG x\nS:\nG a\n|a\n|b" + "\n||".repeat(40), "3:1 6:3 7:3");
    // They leave the state: behind SCENARIO 13 the state is that of the twelfth.
    due(t, "F:" + "\nS:".repeat(12) + "\nG a\nS:\n|a|\nS:\nG b", "15:5 17:5");
    due(t, "F:" + "\nS:".repeat(12) + "\nG a\n|a|\nS:\n|a|b|", "16:5 17:4");
  }

  private static void waitingTags(Check t) {
    due(t, "@a\nS:\nF:", "2:1");
    due(t, "F:\n@a\nG x", "3:1 4:7");
    due(t, "F:\n@a\nG x\n\nS:", "3:1");
    due(t, "F:\n@a\n@q\nG x\nS:", "3:2 4:1");
    due(t, "F:\n@q\nG x\nS:", "2:2 3:1");
    due(t, "F:\n@q\nx\nS:", "2:2");
    due(t, "F:\n@a\nE:\nx\nS:\nx", "3:1 4:1");
  }

  private static void atMostTwenty(Check t) {
    StoryDesk x = new StoryDesk();
    t.is("20 of 25", t.read(x, "F:" + "\nE:".repeat(25)), 20);
    t.is("the last one kept", x.error(19, 0), 21);
    t.is("look", x.look(7), 20);
    t.outOfBounds("behind it", () -> x.error(20, 0));
    t.is("at the end, too", t.read(x, "x\n".repeat(20)), 20);
    t.is("number", x.error(19, 1), 1);
    t.is("19 and one", t.read(x, "x\n".repeat(19)), 20);
    t.is("number", x.error(19, 1), 6);
    t.is("line", x.error(19, 0), 21);
  }

  private static void bounds(Check t) {
    StoryDesk x = new StoryDesk();
    t.outOfBounds("before any reading", () -> x.error(0, 0));
    t.read(x, "F:\nE:\nG a");
    t.is("line", x.error(1, 0), 3);
    t.is("number", x.error(1, 1), 1);
    t.outOfBounds("k -1", () -> x.error(-1, 0));
    t.outOfBounds("k 2", () -> x.error(2, 1));
    t.outOfBounds("what -1", () -> x.error(0, -1));
    t.outOfBounds("what 2", () -> x.error(0, 2));
    t.outOfBounds("large", () -> x.error(Integer.MAX_VALUE, Integer.MIN_VALUE));
    t.read(x, "F:\nS:\nG a");
    t.outOfBounds("the latest reading had none", () -> x.error(0, 0));
    x.start(1);
    t.outOfBounds("during a run", () -> x.error(0, 0));
  }
}
