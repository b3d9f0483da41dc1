/** Promise 6: hook makes the text a hook's tag expression. */
public final class Promise06HookTest {
  public static void main(String[] args) {
    Check t = new Check();
    forms(t);
    scripts(t);
    room(t);
    duringARun(t);
    t.end();
  }

  private static void formed(Check t, String text, boolean due) {
    StoryDesk x = new StoryDesk();
    t.put(x, text);
    if (due) {
      t.is("hook " + text, x.hook(true, 0), 0);
    } else {
      t.wrongArgument("hook " + text, () -> x.hook(true, 0));
    }
    t.is("the text is empty behind " + text, x.look(1), 0);
    t.is("hooks behind " + text, x.look(4), due ? 1 : 0);
  }

  private static void forms(Check t) {
    String[] well = {
      "", " ", "   ", "a", "p", " a ", "!a", "!!a", "! ! a", "a&b", "a|b", "a & b | c", "(a)", "((a))", "!(a|b)&c", "( a )",
      "a|b|c&d&e", "!(!(!a))", "(".repeat(19) + "a" + ")".repeat(19), "!".repeat(39) + "a", " ".repeat(40), "a" + " ".repeat(39)
    };
    String[] ill = {
      "q", "A", "@a", "ab", "a b", "!", "&", "|", "a&", "&a", "a|", "|a", "a&&b", "a||b", "a&|b", "()", "( )", "(a", "a)", "(", ")",
      "a!", "a!b", "a(b)", "(a)b", "(a)(b)", "!()", "a\n", "\n", "1", "a,b", "`", "a" + " ".repeat(40), " ".repeat(41),
      "(ab", "(a(", "(aq", "(q)", "(A)", "(b!", "((a)", "!".repeat(40) + "a", "!".repeat(40), "(".repeat(40), ")(", "a&(b|)"
    };
    for (String text : well) {
      formed(t, text, true);
    }
    for (String text : ill) {
      formed(t, text, false);
    }
  }

  private static void scripts(Check t) {
    StoryDesk x = new StoryDesk();
    for (int script = 0; script < 7; script++) {
      t.is("script " + script, t.hook(x, script % 2 == 0, "a", script), script);
    }
    int[] wrong = {-1, 8, Integer.MAX_VALUE, Integer.MIN_VALUE};
    for (int script : wrong) {
      t.put(x, "a");
      t.wrongArgument("script " + script, () -> x.hook(false, script));
      t.is("the text is empty", x.look(1), 0);
    }
    t.is("script 7", t.hook(x, false, "", 7), 7);
    t.is("hooks", x.look(4), 8);
  }

  private static void room(Check t) {
    StoryDesk x = new StoryDesk();
    for (int i = 0; i < 8; i++) {
      t.is("hook", t.hook(x, i < 4, "", 1), i);
    }
    t.put(x, "a");
    t.unsupported("a ninth", () -> x.hook(true, 0));
    t.is("the text is empty", x.look(1), 0);
    t.put(x, "(");
    t.wrongArgument("no tag expression comes first", () -> x.hook(true, 0));
    t.put(x, "a");
    t.wrongArgument("no such script comes first", () -> x.hook(true, -1));
    t.is("eight", x.look(4), 8);
    t.read(x, "F:\nS:");
    x.start(1);
    x.go(40);
    t.is("all eight are done, none more", t.events(x, 12), "0110 1000 2000 2010 2020 2030 2070 2060 2050 2040 4000 5000");
  }

  private static void duringARun(Check t) {
    StoryDesk x = t.told("F:\nS:\nG a");
    x.start(1);
    t.put(x, "a");
    t.wrongState("during a run", () -> x.hook(true, 0));
    t.wrongState("nor with a wrong script", () -> x.hook(true, 8));
    t.is("the text stays", x.look(1), 1);
    t.is("none", x.look(4), 0);
    x.go(40);
    t.is("behind it", x.hook(true, 0), 0);
  }
}
