/** The edges of DEFINITIONS: which EXPRESSIONS are well formed, what they FIT, and their ARGUMENTS. */
public final class EdgeExpressionsTest {
  private static final Edge T = new Edge();

  public static void main(String[] args) {
    counts();
    ordinaryOnes();
    parameters();
    optionals();
    words();
    fitting();
    optionalsAndWordsThatFit();
    theFirstWay();
    arguments();
    bound();
    T.end();
  }

  private static void counts() {
    T.sentence("DEFINITIONS 0 .. 11", () -> {
      StoryDesk x = T.told("F:\nS:\nG a0\nG a11\nG a12");
      for (int i = 0; i < 12; i++) {
        T.is("definition", T.define(x, "a" + i, 0), i);
      }
      T.put(x, "a12");
      T.unsupported("definition 12", () -> x.define(0));
      T.is("twelve", x.look(3), 12);
      T.is("the first one", x.step(0, 0, 2), 0);
      T.is("the last one", x.step(0, 1, 2), 11);
      T.is("not the refused one", x.step(0, 2, 2), -1);
    });
    T.sentence("an EXPRESSION (1 to 60 characters of the text as it stands", () -> {
      T.notFormed("", "a".repeat(61), "a".repeat(480), " ".repeat(61), "{i}".repeat(6) + "a".repeat(43));
      T.formed("a", " ", "a".repeat(60), " ".repeat(60), "{i}".repeat(6) + "a".repeat(42), "\n");
      T.fits("a ", "a ");
      T.fitsNot("a ", "a", "a  ");
      T.fits(" a", " a");
      T.fitsNot(" a", "a");
      T.fits("a".repeat(60), "a".repeat(60));
      T.fitsNot("a".repeat(60), "a".repeat(59));
      T.fits("a  a" + " a".repeat(28), "a  a" + " a".repeat(28));
      T.fits("(a)".repeat(20), "", "a".repeat(20));
    });
    T.sentence("each \\ counted)", () -> {
      T.formed("\\a".repeat(30), "a".repeat(58) + "\\a", "\\\\".repeat(30));
      T.notFormed("\\a".repeat(30) + "a", "a".repeat(59) + "\\a", "\\\\".repeat(31));
    });
    T.sentence("and a SCRIPT 0 .. 7.", () -> {
      StoryDesk x = T.desk();
      T.is("0", T.define(x, "a", 0), 0);
      T.is("7", T.define(x, "a", 7), 1);
      T.put(x, "a");
      T.wrongArgument("8", () -> x.define(8));
      T.put(x, "a");
      T.wrongArgument("-1", () -> x.define(-1));
      T.is("two", x.look(3), 2);
    });
  }

  private static void ordinaryOnes() {
    T.sentence("A \\ makes the character behind it an ORDINARY one", () -> {
      T.formed("\\{", "\\}", "\\(", "\\)", "\\/", "\\\\", "\\ ", "\\a", "\\\n", "(\\))", "(\\\\)");
      T.notFormed("\\", "a\\", "(a\\", "(a\\)", "(\\)", "{\\i}", "\\{i}", "\\\\\\");
      T.fits("\\{i\\}", "{i}");
      T.fits("a\\/b", "a/b");
      T.fitsNot("a\\/b", "a", "b", "a\\/b");
      T.fits("\\\\a", "\\a");
      T.fits("\\(a\\)", "(a)");
      T.fitsNot("\\(a\\)", "", "a");
      T.fits("a\\ b/c", "a b", "c");
      T.fitsNot("a\\ b/c", "a c", "a");
      T.fits("(a\\)b)", "a)b", "");
      T.fits("\\a\\b", "ab");
    });
    T.sentence("so are all but { } ( ) / \\ and blanks", () -> {
      for (char one = 32; one < 127; one++) {
        if ("{}()/\\ ".indexOf(one) < 0) {
          T.formed("" + one, "x" + one + "/" + one);
          T.fits("x" + one, "x" + one);
        }
      }
      T.formed("\n", "a\nb");
      T.notFormed("{", "}", "(", ")", "/", "\\");
    });
  }

  private static void parameters() {
    T.sentence("a PARAMETER {i}, {d}, {w} or {s}", () -> {
      T.formed("{i}", "{d}", "{w}", "{s}", "a{i}b", "{i}{w}");
      T.notFormed("{}", "{x}", "{a}", "{I}", "{ii}", "{i", "i}", "{ i}", "{i }", "{", "{{i}}", "{i}}", "{e}", "{t}", "{c}", "{v}", "{h}", "{j}", "{r}");
      T.notFormed("{ix", "{i ", "{i{", "{i(", "{i)", "{i/", "{i\\", "{i{i}", "{ia}", "{,}", "{i,}");
    });
    T.sentence("(Else it is not well formed; also with more than 6 parameters.)", () -> {
      T.formed("{i}{d}{w}{s}{i}{d}", "{i}".repeat(6), "a {i} b {i} c {i} d {i} e {i} f {i} g");
      T.notFormed("{i}{d}{w}{s}{i}{d}{w}", "{i}".repeat(7), "{i}".repeat(20));
      T.notFormed("}", ")", "a)", "a}", "a{", "a(");
      T.arguments("{i}{i}{i}{i}{i}{i}", "123456", "0+1 1+1 2+1 3+1 4+1 5+1");
    });
  }

  private static void optionals() {
    T.sentence("an OPTIONAL text: ( and the characters, at least one, up to the next )", () -> {
      T.formed("(a)", "( )", "(ab)c", "a(b)", "(a)(b)", "(a) (b)", "(" + "a".repeat(58) + ")");
      T.notFormed("()", "a()", "(", "(a", ")", "a)", "(a))", "((a))", "(a)b)");
    });
    T.sentence("(here all but \\ and ) are ordinary ones, blanks too)", () -> {
      T.formed("({)", "(})", "(()", "(/)", "( a b )", "({i})", "(a/b)", "(/a)", "(\\))", "(\\\\)", "(\n)");
      T.notFormed("(\\)", "(a\\");
      T.fits("x(({/)", "x", "x({/");
      T.fits("x(a/b)", "x", "xa/b");
      T.fitsNot("x(a/b)", "xa", "xb");
      T.fits("x({i})", "x", "x{i}");
      T.fitsNot("x({i})", "x1");
      T.fits("x( a b)", "x", "x a b");
    });
  }

  private static void words() {
    T.sentence("a WORD: as many ordinary characters and / as follow one another: with / in it ALTERNATIVES", () -> {
      T.fits("ab/cd", "ab", "cd");
      T.fitsNot("ab/cd", "abd", "acd", "ab/cd", "abcd", "a", "d");
      T.fits("x ab/cd y", "x ab y", "x cd y");
      T.fits("ab/cd(e)f", "abf", "abef", "cdf", "cdef");
      T.fits("a/b{i}", "a1", "b1");
      T.fitsNot("a/b{i}", "a", "1");
      T.fits("a/b/c/d", "a", "b", "c", "d");
    });
    T.sentence("the texts between, at least one character each", () -> {
      T.formed("a/b", "a/b/c", "\\//a", "a/\\/", "a/b (c)");
      T.notFormed("/", "/a", "a/", "a//b", "a/b/", "//", "a/ b", "a /b", "a/{i}", "{i}/a", "a/(b)", "(a)/b", "a//");
    });
    T.sentence("without, its characters.", () -> {
      T.fits("abc", "abc");
      T.fitsNot("abc", "ab", "abcd", "bc", "Abc", "abd", "");
    });
  }

  private static void fitting() {
    T.sentence("It FITS a step's text if this is wholly made of what they stand for, one behind the other", () -> {
      T.fits("a {i} b", "a 1 b");
      T.fitsNot("a {i} b", "a 1 b ", "a 1 bc", " a 1 b", "a 1", "b 1 a", "a  1 b", "a 1  b", "");
      T.fits("(a)", "");
      T.fits("(a)(b)", "", "a", "b", "ab");
      T.fitsNot("(a)(b)", "ba", "abab");
      for (String first : new String[] {"{i}", "{d}", "{s}", "a"}) {
        T.fitsNot(first + "{w}", "bcd", "", "-", "\"b");
      }
    });
    T.sentence("{i}: perhaps -, then 1 to 9 digits", () -> {
      T.fits("{i}", "0", "9", "-0", "-9", "123456789", "-123456789", "000000000");
      T.fitsNot("{i}", "", "-", "1234567890", "-1234567890", "--1", "+1", "1-", "1.0", "/", ":", "a", "1 2", " 1", "1 ");
      T.fitsNot("{i}a", "a", "-a");
      T.fitsNot("a{i}", "a", "a-");
    });
    T.sentence("{d}: perhaps -, 1 to 6 digits, . and 1 to 3 digits", () -> {
      T.fits("{d}", "0.0", "9.9", "-1.5", "123456.789", "-123456.789", "1.12", "000000.000");
      T.fitsNot("{d}", "", "1", "1.", ".1", "-.1", "1234567.1", "1.1234", "--1.1", "+1.1", "1.-1", "1,1", "1..1", "1.1.1", "-", ".", "/.1", "1./", ":.1", "1.:");
      T.fitsNot("{d}a", "a", "1a", "1.a", ".1a");
    });
    T.sentence("{w}: one or more characters other than blank", () -> {
      T.fits("{w}", "a", "ab", "~!", "-1.5", "\"a\"", "a".repeat(60));
      T.fitsNot("{w}", "", " ", "a b", "a ", " a");
      T.fitsNot("{w}b", "b");
      T.fitsNot("b{w}", "b");
      T.fitsNot("{w} {w}", "a ", " a", " ", "a");
    });
    T.sentence("{s}: \" some or no characters other than \" and \"", () -> {
      T.fits("{s}", "\"\"", "\"a\"", "\" \"", "\"a b\"", "\"" + "a".repeat(58) + "\"");
      T.fitsNot("{s}", "", "\"", "a", "\"a", "a\"", "\"a\"b", "a\"b\"", "\"a\"b\"", "\"\"\"", "'a'");
      T.fitsNot("{s}a", "a", "\"a", "a\"a");
    });
    T.sentence("Blanks and other characters stand for themselves.", () -> {
      T.fits("a b", "a b");
      T.fitsNot("a b", "ab", "a  b", "a");
      T.fits("a  b", "a  b");
      T.fitsNot("a  b", "a b");
      T.fits(" ", " ");
      T.fitsNot(" ", "", "  ");
      T.fits("a.*[b]?^$|+", "a.*[b]?^$|+");
      T.fitsNot("a.*", "abc");
    });
  }

  private static void optionalsAndWordsThatFit() {
    T.sentence("an optional text or nothing", () -> {
      T.fits("a(b)", "a", "ab");
      T.fitsNot("a(b)", "abb", "b", "a(b)", "");
      T.fits("(ab)c", "c", "abc");
      T.fitsNot("(ab)c", "ac", "bc", "ab");
    });
    T.sentence("one of the alternatives.", () -> {
      T.fits("a/bc", "a", "bc");
      T.fitsNot("a/bc", "", "abc", "b", "c", "ac");
    });
  }

  private static void theFirstWay() {
    T.sentence("Of several ways the first counts: more characters for a parameter before fewer", () -> {
      T.arguments("{i}{i}", "1234", "0+3 3+1");
      T.arguments("{i}{i}", "1234567890", "0+9 9+1");
      T.arguments("{i}{i}", "12345678901", "0+9 9+2");
      T.arguments("{d}{i}", "1.2345", "0+5 5+1");
      T.arguments("{d}{i}", "1.23", "0+3 3+1");
      T.arguments("{w}{w}", "abcd", "0+3 3+1");
      T.arguments("{w}b{w}", "abbb", "0+2 3+1");
      T.arguments("{w}(b)", "abb", "0+3");
      T.arguments("{i}{d}", "1234567.5", "0+6 6+3");
    });
    T.sentence("an optional text before nothing", () -> {
      T.arguments("(a){w}", "aab", "1+2");
      T.arguments("(a){w}", "a", "0+1");
      T.arguments("(a)(a){w}", "aa", "1+1");
      T.arguments("(ab)(a){w}", "abac", "3+1");
      T.arguments("x(1){i}", "x12", "2+1");
      T.arguments("x(1){i}", "x1", "1+1");
    });
    T.sentence("alternatives in their order", () -> {
      T.arguments("a/ab{w}", "abc", "1+2");
      T.arguments("ab/a{w}", "abc", "2+1");
      T.arguments("ab/a{w}", "ab", "1+1");
      T.arguments("a/ab/abc{w}", "abcd", "1+3");
      T.arguments("x/abc/ab/a{w}", "abcd", "3+1");
      T.arguments("a/ab{i}", "ab1", "2+1");
    });
    T.sentence("what stands further to the left counts more.", () -> {
      T.arguments("{w}{w}{w}", "abcde", "0+3 3+1 4+1");
      T.arguments("{i}(2){i}", "123", "0+2 2+1");
      T.arguments("(1){i}{i}", "1234", "1+2 3+1");
      T.arguments("a/ab(b){w}", "abbc", "2+2");
      T.arguments("{w}\\/{w}", "a/b/c", "0+3 4+1");
    });
  }

  private static void arguments() {
    T.sentence("The ARGUMENTS are what the parameters stand for (of {s} without the \").", () -> {
      T.arguments("{s}", "\"a b\"", "1+3");
      T.arguments("{s}", "\"\"", "1+0");
      T.arguments("x{s}{s}", "x\"\"\"a\"", "2+0 4+1");
      T.arguments("{i} {d} {w}", "-1 -1.5 \"a\"", "0+2 3+4 8+3");
      T.arguments("a(b)c/d", "abd", "");
      T.arguments("a{w}", "a".repeat(60), "1+59");
      T.arguments("a".repeat(57) + "{i}", "a".repeat(57) + "-12", "57+3");
    });
  }

  private static void bound() {
    T.sentence("A step is BOUND to the definition that fits it, if it is one alone; UNDEFINED without one, AMBIGUOUS with several.", () -> {
      StoryDesk x = T.bound("a1", "b{i}", "{w}");
      T.is("bound", x.step(0, 0, 2), 1);
      T.is("one fits", x.step(0, 0, 3), 1);
      StoryDesk none = T.bound("a1", "b{i}", "a");
      T.is("undefined", none.step(0, 0, 2), -1);
      T.is("none fits", none.step(0, 0, 3), 0);
      StoryDesk two = T.bound("a1", "a{i}", "b", "{w}");
      T.is("ambiguous", two.step(0, 0, 2), -2);
      T.is("two fit", two.step(0, 0, 3), 2);
      StoryDesk same = T.bound("a", "a", "a");
      T.is("the same expression twice", same.step(0, 0, 2), -2);
      T.is("without definitions", T.bound("a").step(0, 0, 2), -1);
    });
  }
}
