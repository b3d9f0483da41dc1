/** The edges of TAG EXPRESSIONS and HOOKS. */
public final class EdgeTagsTest {
  private static final Edge T = new Edge();

  public static void main(String[] args) {
    lengths();
    parts();
    binding();
    hooks();
    T.end();
  }

  private static void lengths() {
    T.sentence("TAG EXPRESSIONS (at most 40 characters, blanks too)", () -> {
      T.holds("@a", "!".repeat(38) + " a", " ".repeat(39) + "a", "a" + " ".repeat(39), " ".repeat(40), "a|".repeat(19) + "!a");
      T.holds("@a", "(".repeat(19) + " a" + ")".repeat(19), "a" + "&a".repeat(19) + " ");
      T.noTagExpressions(" ".repeat(40) + "a", "a" + " ".repeat(40), " ".repeat(41), "!".repeat(40) + "a", "a" + "&a".repeat(20));
      T.noTagExpressions("(".repeat(20) + "a" + ")".repeat(20), "a".repeat(480));
      T.noTagExpressions("!".repeat(40), "(".repeat(40), "(".repeat(39) + "a", "a&".repeat(20), "a|".repeat(20));
    });
  }

  private static void parts() {
    T.sentence("a letter a .. p: this tag is there", () -> {
      for (char tag = 'a'; tag <= 'p'; tag++) {
        char other = tag == 'a' ? 'b' : (char) (tag - 1);
        T.holds("@" + tag, "" + tag);
        T.holdsNot("@" + other, "" + tag);
      }
      T.holdsNot("", "a", "p");
      T.noTagExpressions("q", "z", "`", "A", "P", "@a", "1", "0", "aa", "a b", "a,b", "\n", "a\n", "{", "~");
    });
    T.sentence("! x", () -> {
      T.holds("@a", "!b", "!!a", "!!!b", "! b", "!(b)");
      T.holdsNot("@a", "!a", "!!b", "!!!a", "!(!b)");
      T.noTagExpressions("!", "a!", "!!", "a!b", "!q", "!&", "b!a", "!()");
    });
    T.sentence("x & y", () -> {
      T.holds("@a @b", "a&b", "b&a", "a&a", "a&b&a");
      T.holdsNot("@a", "a&b", "b&a", "b&c", "a&b&a");
      T.noTagExpressions("&", "a&", "&a", "a&&a", "a&|a", "a&q");
    });
    T.sentence("x | y", () -> {
      T.holds("@a", "a|b", "b|a", "a|a", "b|c|a", "a|b|c");
      T.holdsNot("@c", "a|b", "b|a", "a|b|p");
      T.noTagExpressions("|", "a|", "|a", "a||a", "a|&a", "a|q");
    });
    T.sentence("( x )", () -> {
      T.holds("@a", "(a)", "((a))", "(a)|(b)", "(a|b)", "( a )", "!((b))");
      T.holdsNot("@a", "(b)", "((b))", "(a)&(b)");
      T.noTagExpressions("(", ")", "()", "( )", "(a", "a)", "(a))", "((a)", ")a(", "(a)(b)", "a(b)", "(a)b", "(a|)", "(|a)", "(a&)b", "(a!)", "a()", "(a(", "(q)");
    });
  }

  private static void binding() {
    T.sentence("! binds closest, then &, then |", () -> {
      T.holds("@a", "!b|a", "!b&a", "a|b&c", "c&b|a", "a|!a&b", "!(a&b)", "!b&!c");
      T.holdsNot("@a", "!a|b", "!a&b", "(a|b)&c", "c&(b|a)", "!(a|b)", "!a&b|c");
      T.holds("@b", "!a|b", "!a&b", "!a&b|c");
      T.holdsNot("@b", "!(a|b)", "!b&b", "!b|a");
      T.holds("@a @b", "!a&!b|a", "a|b&c", "b&c|a");
      T.holdsNot("@a @b", "!(a&b)|c", "(a|b)&c");
      T.holds("", "!a&!b", "!a|b", "!(a&b)", "!a");
      T.holdsNot("", "!(!a|b)", "!!a");
    });
    T.sentence("blanks do not count.", () -> {
      T.holds("@a", " a", "a ", "  ! b  &  a ", "( a | b )", "! ! a");
      T.holdsNot("@a", " ! a", "  b", " a & b ");
      T.noTagExpressions("a a", "a b", "( )", "! ", "a & ");
    });
    T.sentence("(an empty one holds always)", () -> {
      T.holds("", "", " ");
      T.holds("@a @p", "", "   ");
      StoryDesk x = T.told("F:\nS:\n@a\nS:");
      T.hook(x, true, "", 0);
      T.is("an empty one of a hook", T.run(x, 1), "0210 1000 2000 4000 1100 2100 4100 5000");
    });
  }

  private static void hooks() {
    T.sentence("HOOKS 0 .. 7: BEFORE or AFTER", () -> {
      StoryDesk x = T.told("F:\nS:");
      for (int hook = 0; hook < 8; hook++) {
        T.is("hook " + hook, T.hook(x, hook % 2 == 0, "", 0), hook);
      }
      T.put(x, "a");
      T.unsupported("hook 8", () -> x.hook(true, 0));
      T.is("eight", x.look(4), 8);
      T.is("all of them", T.run(x, 1), "0110 1000 2000 2020 2040 2060 2070 2050 2030 2010 4000 5000");
    });
    T.sentence("a tag expression", () -> {
      StoryDesk x = T.told("F:\n@a\nS:\n@b\nS:\n@a @b\nS:");
      T.hook(x, true, "a", 0);
      T.hook(x, false, "a&b", 0);
      T.hook(x, false, "!b", 0);
      T.is("each holds or does not", T.run(x, 1), "0310 1000 2000 2020 4000 1100 4100 1200 2200 2210 4200 5000");
    });
    T.sentence("and a SCRIPT.", () -> {
      StoryDesk x = T.told("F:\nS:");
      T.script(x, 0, 7, 0);
      T.script(x, 7, 6, 0);
      T.hook(x, false, "", 0);
      T.hook(x, false, "", 7);
      T.is("0 and 7", T.run(x, 1), "0110 1000 2015 2002 4050 5500");
      T.wrongArgument("8", () -> x.hook(true, 8));
      T.wrongArgument("-1", () -> x.hook(true, -1));
    });
  }
}
