/** Promise 5: define makes the text an expression, if it is well formed and there is room. */
public final class Promise05DefineTest {
  public static void main(String[] args) {
    Check t = new Check();
    forms(t);
    lengths(t);
    parameters(t);
    scripts(t);
    room(t);
    nothingIsLeft(t);
    duringARun(t);
    t.end();
  }

  private static void formed(Check t, String text, boolean due) {
    StoryDesk x = new StoryDesk();
    t.put(x, text);
    if (due) {
      t.is("define " + text, x.define(0), 0);
    } else {
      t.wrongArgument("define " + text, () -> x.define(0));
    }
    t.is("the text is empty behind " + text, x.look(1), 0);
    t.is("definitions behind " + text, x.look(3), due ? 1 : 0);
  }

  private static void forms(Check t) {
    String[] well = {
      "a", " ", "{i}", "{d}", "{w}", "{s}", "(a)", "( )", "({)", "(()", "(/)", "(})", "(a\\)b)", "(\\\\)", "a/b", "a/b/c",
      "a(b)c", "a(b)/c".substring(0, 4), "\\{", "\\}", "\\(", "\\)", "\\/", "\\\\", "\\ ", "\\a", "\\//a", "a/\\/", "a\nb",
      "(\n)", "{i}{i}", "a{i}b", "(a)(b)", "a b  c", "<>|@#\"", "a/b{i}", "{i}a/b", "a/b (c)"
    };
    String[] ill = {
      "", "{", "}", "(", ")", "/", "\\", "()", "(a", "a)", "a/", "/a", "a//b", "a/ b", "a /b", "a/{i}", "{i}/a", "(a)/b",
      "a/(b)", "{x}", "{}", "{ii}", "{i", "i}", "{I}", "{ i}", "{i }", "{\\i}", "a\\", "(a\\", "(a\\)", "(\\)", "{{i}}", "{i}}",
      "a/b/", "{\n}", "((a))"
    };
    for (String text : well) {
      formed(t, text, true);
    }
    for (String text : ill) {
      formed(t, text, false);
    }
  }

  private static void lengths(Check t) {
    formed(t, "a".repeat(60), true);
    formed(t, "a".repeat(61), false);
    formed(t, "\\a".repeat(30), true);
    formed(t, "\\a".repeat(30) + "a", false);
    formed(t, " ".repeat(60), true);
    formed(t, "(a)".repeat(20), true);
    formed(t, "a/".repeat(29) + "ab", true);
    formed(t, "a".repeat(480), false);
  }

  private static void parameters(Check t) {
    formed(t, "{i}{d}{w}{s}{i}{d}", true);
    formed(t, "{i}{d}{w}{s}{i}{d}{w}", false);
    formed(t, "{s} {s} {s} {s} {s} {s} {s}", false);
  }

  private static void scripts(Check t) {
    StoryDesk x = new StoryDesk();
    for (int script = 0; script < 8; script++) {
      t.is("script " + script, t.define(x, "a", script), script);
    }
    int[] wrong = {-1, 8, Integer.MAX_VALUE, Integer.MIN_VALUE};
    for (int script : wrong) {
      t.put(x, "a");
      t.wrongArgument("script " + script, () -> x.define(script));
      t.is("the text is empty", x.look(1), 0);
    }
    t.is("definitions", x.look(3), 8);
    t.is("the next number", t.define(x, "b", 0), 8);
  }

  private static void room(Check t) {
    StoryDesk x = new StoryDesk();
    for (int i = 0; i < 12; i++) {
      t.is("definition", t.define(x, "a" + i, 0), i);
    }
    t.put(x, "b");
    t.unsupported("a thirteenth", () -> x.define(0));
    t.is("the text is empty", x.look(1), 0);
    t.put(x, "(");
    t.wrongArgument("not well formed comes first", () -> x.define(0));
    t.put(x, "b");
    t.wrongArgument("no such script comes first", () -> x.define(8));
    t.is("twelve", x.look(3), 12);
    t.is("read", t.read(x, "F:\nS:\nG b\nG a0\nG a11"), 0);
    t.is("the refused ones fit nothing", x.step(0, 0, 3), 0);
    t.is("the first one is there", x.step(0, 1, 2), 0);
    t.is("the last one is there", x.step(0, 2, 2), 11);
  }

  /** What was refused leaves nothing in the one that comes to its place. */
  private static void nothingIsLeft(Check t) {
    StoryDesk x = t.told("F:\nS:\nG b7\nG a\nG ab");
    String[] wrong = {"a{i}{w}(c", "a/b/c/", "(x)(y)z/", "{i}{i}{i}{i}{i}{i}{i}", "ab {d}}", "abc\\"};
    for (String text : wrong) {
      t.put(x, text);
      t.wrongArgument("refused " + text, () -> x.define(0));
    }
    t.is("well formed", t.define(x, "b{i}", 0), 0);
    t.is("fits", x.step(0, 0, 2), 0);
    t.is("its argument", x.argument(0, 0, 0), 101);
    t.outOfBounds("its only one", () -> x.argument(0, 0, 1));
    t.put(x, "ab/");
    t.wrongArgument("refused", () -> x.define(0));
    t.is("well formed", t.define(x, "a", 0), 1);
    t.is("fits", x.step(0, 1, 2), 1);
    t.is("does not fit", x.step(0, 2, 2), -1);
    t.is("six parameters behind six of a refused one", t.define(x, "{i}{i}{i}{i}{i}{i}", 0), 2);
  }

  private static void duringARun(Check t) {
    StoryDesk x = t.told("F:\nS:\nG a");
    x.start(1);
    t.wrongState("with an empty text", () -> x.define(0));
    t.put(x, "a");
    t.wrongState("during a run", () -> x.define(0));
    t.wrongState("nor with a wrong script", () -> x.define(8));
    t.is("the text stays", x.look(1), 1);
    t.is("none", x.look(3), 0);
    x.go(40);
    t.is("behind it", x.define(0), 0);
    t.is("the cases are bound to it at once", x.step(0, 0, 2), 0);
  }
}
