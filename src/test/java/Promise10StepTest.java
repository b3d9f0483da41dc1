/** Promise 10: step tells a step's line, ROWS, definition, how many fit, and its text (the term IT FITS). */
public final class Promise10StepTest {
  public static void main(String[] args) {
    Check t = new Check();
    linesAndRows(t);
    texts(t);
    names(t);
    cuts(t);
    binding(t);
    fitting(t);
    bounds(t);
    t.end();
  }

  private static void linesAndRows(Check t) {
    StoryDesk x = t.told("F:\nB:\n\nG a\n|1|\n|2|\nS:\n#\nG b\nG c\n|3|\nE:\n|n|\n|1|\n|2|");
    int[] lines = {4, 9, 10};
    int[] rows = {2, 0, 1};
    for (int story = 0; story < 2; story++) {
      for (int step = 0; step < 3; step++) {
        t.is("line", x.step(story, step, 0), lines[step]);
        t.is("rows", x.step(story, step, 1), rows[step]);
      }
    }
  }

  private static void texts(Check t) {
    StoryDesk x = t.told("F:\nS:\nG   a  b  \n*  * *\nW |@#\nG G x\nG <a>\nG ~!");
    String[] due = {"a  b", "* *", "|@#", "G x", "<a>", "~!"};
    for (int step = 0; step < due.length; step++) {
      t.is("text", t.stepText(x, 0, step), due[step]);
      t.is("behind its end", x.step(0, step, 100 + due[step].length()), -1);
      t.is("far behind it", x.step(0, step, 160), -1);
    }
  }

  private static void said(Check t, String step, String names, String values, String due) {
    StoryDesk x = t.told("F:\nB:\nG <a><b>\nS:\n" + step + "\nE:\n" + names + "\n" + values);
    t.is(step + " with " + names + values, t.stepText(x, 0, 1), due);
    t.is("a BACKGROUND's is left", t.stepText(x, 0, 0), "<a><b>");
  }

  private static void names(Check t) {
    said(t, "G <a>", "|a|", "|x|", "x");
    said(t, "G <a><b> <a>", "|a|b|", "|1|2|", "12 1");
    said(t, "G <c>", "|a|", "|x|", "<c>");
    said(t, "G <A>", "|a|", "|x|", "<A>");
    said(t, "G <a", "|a|", "|x|", "<a");
    said(t, "G a>", "|a|", "|x|", "a>");
    said(t, "G < a>", "|a|", "|x|", "< a>");
    said(t, "G <a >", "|a|", "|x|", "<a >");
    said(t, "G <ab>", "|a|", "|x|", "<ab>");
    said(t, "G <a>", "|ab|", "|x|", "<a>");
    said(t, "G <a b>", "|a b|", "|x|", "x");
    said(t, "G <<a>>", "|a|", "|x|", "<x>");
    said(t, "G <a><", "|a|", "|x|", "x<");
    said(t, "G <>", "||", "|x|", "x");
    said(t, "G <><a>", "|a||", "|x|y|", "yx");
    said(t, "G <a>", "|a|a|", "|x|y|", "x");
    said(t, "G <a>b>", "|a|a>b|", "|x|y|", "xb>");
    said(t, "G <a>b>", "|a>b|a|", "|y|x|", "y");
    said(t, "G <a<b>", "|a<b|b|", "|y|x|", "y");
    said(t, "G <a<b>", "|b|", "|x|", "<ax");
    said(t, "G <a>", "|a|b|", "|<b>|2|", "<b>");
    said(t, "G <a>b>", "|a|xb|", "|<x|2|", "<xb>");
    said(t, "G <<b>>", "|a|b|", "|1|a|", "<a>");
    said(t, "G <a>", "|a|b|", "||2|", "");
    said(t, "G <a> x", "|a|", "||", " x");
    said(t, "G x <a>", "|a|", "||", "x ");
    StoryDesk x = t.told("F:\nS:\nG <a>\nE:\n|a|\n|1|\n|2|\nE:\n|b|\n|3|\nS:\nG <a>");
    t.is("first ROW", t.stepText(x, 0, 0), "1");
    t.is("second ROW", t.stepText(x, 1, 0), "2");
    t.is("other NAMES", t.stepText(x, 2, 0), "<a>");
    t.is("without EXAMPLES", t.stepText(x, 3, 0), "<a>");
    StoryDesk y = t.told("F:\nR:\nB:\nG <a>\nS:\nG <a>\nE:\n|a|\n|1|");
    t.is("a RULE's BACKGROUND's is left", t.stepText(y, 0, 0) + t.stepText(y, 0, 1), "<a>1");
  }

  private static void cuts(Check t) {
    String sixty = "0123456789".repeat(6);
    t.is("60 stay", t.stepText(t.told("F:\nS:\nG " + sixty), 0, 0), sixty);
    t.is("the 61st is cut off", t.stepText(t.told("F:\nS:\nG " + sixty + "x"), 0, 0), sixty);
    String fifty = "0123456789".repeat(5);
    said(t, "G " + fifty + "1234567<a>b", "|a|", "|x|", fifty + "1234567x");
    said(t, "G " + fifty + "12345678<a>b", "|a|", "|x|", fifty + "12345678<a");
    said(t, "G " + fifty + "<a>12345678", "|a|", "|abcd|", fifty + "abcd123456");
    said(t, "G <a><a>", "|a|", "|" + fifty + "|", fifty + "0123456789");
    said(t, "G <a>", "|a|", "|" + sixty + "xyz|", sixty);
    said(t, "G <a>b", "|a|", "|" + sixty + "|", sixty);
    said(t, "G <" + fifty + ">", "|" + fifty + "|", "|x|", "x");
    // A blank that comes to the end by cutting stays there.
    StoryDesk x = t.told("F:\nS:\nG " + fifty + "123456789 x");
    t.is("the blank", x.step(0, 0, 159), 32);
    t.is("behind it", x.step(0, 0, 160), -1);
    // A NAME longer than 60 is cut, and so is the step's text: they no longer meet.
    said(t, "G <" + sixty + "x>", "|" + sixty + "x|", "|y|", "<" + sixty.substring(0, 59));
  }

  private static void binding(Check t) {
    StoryDesk x = t.told("F:\nS:\nG a\nG b\nG c");
    t.is("undefined", x.step(0, 0, 2), -1);
    t.is("none fits", x.step(0, 0, 3), 0);
    t.define(x, "x", 0);
    t.define(x, "a", 0);
    t.define(x, "a/b", 0);
    t.define(x, "{w}", 0);
    int[] bound = {-2, -2, 3};
    int[] fit = {3, 2, 1};
    for (int step = 0; step < 3; step++) {
      t.is("bound " + step, x.step(0, step, 2), bound[step]);
      t.is("fit " + step, x.step(0, step, 3), fit[step]);
    }
    for (int i = 4; i < 12; i++) {
      t.define(x, "c", 0);
    }
    t.is("ambiguous now", x.step(0, 2, 2), -2);
    t.is("nine fit", x.step(0, 2, 3), 9);
    StoryDesk z = t.told("F:\nS:\nG a");
    t.define(z, "a", 0);
    t.is("bound to the first", z.step(0, 0, 2), 0);
    t.define(z, "(b)a", 0);
    t.is("ambiguous with the second", z.step(0, 0, 2), -2);
    StoryDesk y = t.told("F:\nS:\nG <a>\nE:\n|a|\n|x|\n|y|");
    t.define(y, "y", 0);
    t.is("by the text with the cell in it", y.step(0, 0, 2) * 10 + y.step(1, 0, 2), -10);
  }

  private static void fits(Check t, String expression, String text, boolean due) {
    StoryDesk x = t.told(text.isEmpty() ? "F:\nS:\nG <a>\nE:\n|a|\n||" : "F:\nS:\nG " + text);
    t.define(x, expression, 0);
    t.is(expression + " fits " + text, x.step(0, 0, 3), due ? 1 : 0);
    t.is(expression + " bound to " + text, x.step(0, 0, 2), due ? 0 : -1);
  }

  private static void all(Check t, String expression, String fitting, String notFitting) {
    for (String text : fitting.split(";", -1)) {
      fits(t, expression, text, true);
    }
    for (String text : notFitting.split(";", -1)) {
      fits(t, expression, text, false);
    }
  }

  private static void fitting(Check t) {
    all(t, "abc", "abc", "ab;abcd;Abc;xabc;a;");
    all(t, "a b", "a b", "ab;a  b;a");
    all(t, "{i}", "0;-1;123456789;-123456789;007", "-;;1234567890;-1234567890;--1;1-;+1;1.0;a;1 2");
    all(t, "{d}", "1.0;-1.25;123456.789;0.001;-000000.000", "1;1.;.5;-.5;1234567.0;1.2345;1.-2;--1.0;1,0;;1.2.3");
    all(t, "{w}", "a;-1;a.b;\"x\";{w}", ";a b");
    all(t, "{s}", "\"\";\"a\";\"a b\";\" \"", "\";a;\"a;a\";\"a\"b\";\"\"\";;'a'");
    all(t, "a(b)c", "ac;abc", "abbc;a(b)c;ab");
    all(t, "(a b)c", "c;a bc", "ac;a b;bc");
    all(t, "(a)", "a;", "aa;b");
    all(t, "(({/)", "({/;", "(");
    all(t, "(a\\)b)", "a)b;", "a;ab");
    all(t, "a/b/cd", "a;b;cd", "c;a/b;ab;bcd;;a/b/cd");
    all(t, "x a/b y", "x a y;x b y", "x y;x a/b y;x ab y");
    all(t, "a/b{i}", "a1;b-1", "1;a;ab1");
    all(t, "ab/cd(e)", "ab;cd;abe;cde", "abd;acd;e");
    all(t, "\\{i\\}", "{i}", "1;i");
    all(t, "a\\/b", "a/b", "a;b");
    all(t, "a\\ b", "a b", "ab;a\\ b");
    all(t, "\\\\", "\\", "\\\\");
    all(t, "a\\b/c", "ab;c", "a;a\\b");
    all(t, "a\\/b/c", "a/b;c", "a;b/c");
    all(t, "{i}{i}", "12;1-2;123456789123456789;-1-2", "1;-12-;1234567890123456789");
    all(t, "{w}{i}", "a1;11;a-1;--1", "1;a;1a");
    all(t, "{i}{d}", "11.5;1-1.5", "1.5;1.5.5");
    all(t, "{d}{i}", "1.55;1.5-5", "1.5");
    all(t, "{w} {w}", "a b", "a;a b c;a  b");
    all(t, "{s}{s}", "\"\"\"\";\"a\"\"b\"", "\"a\";\"a\" \"b\"");
    all(t, "(a)(a)(a)b", "b;ab;aab;aaab", "aaaab;a");
    all(t, "a/ab{w}", "ab;abc;ax", "a;b");
    all(t, "{d}{w}", "1.5a;1.55", "abc;1.5");
    all(t, "{s}{w}", "\"\"a", "abc;\"a\"");
    all(t, "{i}{w}", "1a;-11", "abc;-a;1");
    // 60 elements; the last blank stands there because what came behind it was cut off.
    fits(t, "a ".repeat(30), "a ".repeat(30) + "x", true);
    fits(t, "a ".repeat(30), "a ".repeat(29) + "ax", false);
    all(t, "(a\nb)c", "c", "abc;a b c;ac");
  }

  private static void bounds(Check t) {
    StoryDesk x = new StoryDesk();
    t.outOfBounds("without cases", () -> x.step(0, 0, 0));
    t.read(x, "F:\nB:\nG b\nS:\nG a\nS:\nS:\nG c\nG d");
    int[][] wrong = {{-1, 0}, {3, 0}, {0, -1}, {0, 2}, {1, 0}, {2, 3}, {Integer.MAX_VALUE, 0}, {0, Integer.MAX_VALUE}, {Integer.MIN_VALUE, 0}, {0, Integer.MIN_VALUE}};
    int[] whats = {0, 1, 2, 3, 100, 160};
    for (int[] place : wrong) {
      for (int what : whats) {
        t.outOfBounds("step " + place[0] + " " + place[1], () -> x.step(place[0], place[1], what));
      }
    }
    int[] wrongWhat = {-1, 4, 5, 99, 161, 200, Integer.MAX_VALUE, Integer.MIN_VALUE};
    for (int what : wrongWhat) {
      t.outOfBounds("what " + what, () -> x.step(0, 0, what));
    }
    t.is("the first character", x.step(0, 0, 100), 'b');
    t.is("no other", x.step(0, 0, 160), -1);
    t.is("the last step", x.step(2, 2, 100), 'd');
  }
}
