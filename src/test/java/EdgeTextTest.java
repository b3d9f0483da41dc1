/** The edges of THE TEXT, its LINES, the DIALECT and the KINDS of lines, a sentence of the document at a time. */
public final class EdgeTextTest {
  private static final Edge T = new Edge();

  public static void main(String[] args) {
    text();
    lines();
    dialects();
    emptyAndTags();
    rows();
    heads();
    steps();
    T.end();
  }

  private static void text() {
    T.sentence("THE TEXT has at most 480 characters", () -> {
      StoryDesk x = T.filled(479);
      T.no("a 481st", x.put(0x6161, 2));
      T.is("479", x.look(1), 479);
      T.yes("the 480th", x.put(0x61, 1));
      T.is("480", x.look(1), 480);
      T.no("a 481st", x.put(0x61, 1));
      T.is("still 480", x.look(1), 480);
      T.is("all 480 are read", T.read(T.desk(), "F:\nS:\n" + "#".repeat(469) + "\n@a\nx"), 2);
    });
    T.sentence("10 or 32 .. 126", () -> {
      int[] characters = {10, 32, 33, 48, 65, 97, 125, 126};
      int[] others = {0, 1, 9, 11, 13, 31, 127, 128, 138, 160, 254, 255};
      StoryDesk x = T.desk();
      for (int one : characters) {
        T.yes("character " + one, x.put(one, 1));
      }
      for (int one : others) {
        T.no("no character " + one, x.put(one, 1));
      }
      T.is("the characters are there", x.look(1), characters.length);
    });
  }

  private static void lines() {
    T.sentence("It is parted into LINES by 10, numbered from 1", () -> {
      T.errors("x", "1:1 2:6");
      T.errors("F:\nx\n\nG a\nE:", "4:1 5:1");
      T.lines("F:\nS:\n\n\nS:", "2/0 5/0");
      T.steps("F: S: G a\nS: G a\nG b G c", "[b G c]");
    });
    T.sentence("(also an empty last one)", () -> {
      T.errors("", "2:6");
      T.errors("\n", "3:6");
      T.errors("#\n\n", "4:6");
      T.errors("F:\n@a", "3:7");
      T.errors("F:\n@a\n", "4:7");
    });
    T.sentence("What is said of a line is said of it without blanks (32) at both ends.", () -> {
      T.steps("   F:  \n  S:   \n   G   a  b   \n  |  c  |  ", "[a  b]");
      T.tables("F:\nS:\nG a\n   |c|  \n |  d|", "[c/d]");
      T.tags("  @a  @b \n F:\nS:", "ab");
      T.steps("F:\nB:\n * a\n     \n  # x  \n R:\n B:\n * b\n S:\n * c \n E:\n |n| \n |m| ", "[a,b,c]");
      T.errors("F:\nS:\nG a\nG   ", "4:1");
      T.errors("F :", "1:1 2:6");
      T.errors("F:\n@ a", "2:2");
      T.steps("F:\nS:\nG a\n ", "[a]");
    });
  }

  private static void dialects() {
    T.sentence("DIALECT 1 is spoken if line 1 is #1, else 0.", () -> {
      String[] one = {"#1", "  #1", "#1   ", " #1 \n", "#1\nP:\nC:", "#1\n#0"};
      String[] none = {"", "#", "#1x", "#11", "# 1", "#2", "#0", "1", "x#1", "\n#1", "#\n#1", "F:\n#1", "#1 1", "##1"};
      for (String text : one) {
        T.is("dialect of " + text, dialect(text), 1);
      }
      for (String text : none) {
        T.is("dialect of " + text, dialect(text), 0);
      }
    });
  }

  /** The same DIALECT is due of a new object, and behind either dialect. */
  private static int dialect(String text) {
    StoryDesk x = T.desk();
    T.read(x, text);
    int first = x.look(5);
    T.read(x, "#1");
    T.read(x, text);
    T.is("behind dialect 1: " + text, x.look(5), first);
    T.read(x, "#");
    T.read(x, text);
    T.is("behind dialect 0: " + text, x.look(5), first);
    return first;
  }

  private static void emptyAndTags() {
    T.sentence("A line is of the KIND, the first of these", () -> {
      T.errors("#F:\n#@q\n#|\n#G a", "5:6");
      T.errors("@F:", "1:2 2:6");
      T.errors("F:\nS:\nG a\n|F:|\n|@a|\n|# x|", "");
      T.errors("F:\nS:\n* |\n* #\n* @q\n* F:", "");
    });
    T.sentence("EMPTY: nothing, or # comes first.", () -> {
      T.errors("\n  \n#\n#x\n # x #\n#1\n#F:\nF:\n\n#@q\nS:\nG a\n\n#|\n|a|\n##\n|b|\n#x", "");
      T.errors("F:\nS:\nG a\nx#", "4:1");
      T.steps("F:\nS:\nG # a\nG b #", "[# a,b #]");
    });
    T.sentence("TAGS: @ comes first; words parted by blanks, each @ and one letter a .. p.", () -> {
      T.tags("@a\nF:\nS:", "a");
      T.tags("@p\nF:\nS:", "p");
      T.tags("@a @b   @p @a\nF:\nS:", "abp");
      T.tags("@a @b @c @d @e @f @g @h @i @j @k @l @m @n @o @p\nF:\nS:", "abcdefghijklmnop");
      String[] wrong = {"@", "@q", "@`", "@A", "@P", "@1", "@@", "@ab", "@a@b", "@ a", "@a b", "@a @", "@a @q", "@a @bc", "@a,@b", "@a #b"};
      for (String line : wrong) {
        T.errors(line + "\nF:", "1:2");
      }
      T.errors("a @a", "1:1 2:6");
    });
  }

  private static void rows() {
    T.sentence("ROW: | comes first; it ends with another |", () -> {
      T.errors("F:\nS:\nG a\n||\n|b|", "");
      T.errors("F:\nS:\nG a\n|", "4:3");
      T.errors("F:\nS:\nG a\n|b", "4:3");
      T.errors("F:\nS:\nG a\n|b|c", "4:3");
      T.errors("F:\nS:\nG a\nb|", "4:1");
    });
    T.sentence("its CELLS (at most 4) stand between them, without blanks at both ends", () -> {
      T.tables("F:\nS:\nG a\n|b|c|d|e|", "[b,c,d,e]");
      T.tables("F:\nS:\nG a\n|||||", "[,,,]");
      T.errors("F:\nS:\nG a\n||||||", "4:3");
      T.errors("F:\nS:\nG a\n|b|c|d|e|f|", "4:3");
      T.tables("F:\nS:\nG a\n|  b  c |d  |  e|\n|    ||  |", "[b  c,d,e/,,]");
      T.tables("F:\nS:\nG a\n||", "[]");
    });
  }

  private static void heads() {
    T.sentence("FEATURE, RULE, BACKGROUND, SCENARIO, EXAMPLES: it begins with F: R: B: S: E:", () -> {
      T.steps("F:x\nB:x\nG a\nR:x\nB:x\nG b\nS:x\nG c\nE:x\n|n|\n|m|", "[a,b,c]");
      T.errors("F", "1:1 2:6");
      T.errors("F :", "1:1 2:6");
      T.errors("f:", "1:1 2:6");
      T.errors("xF:", "1:1 2:6");
      T.errors("F;", "1:1 2:6");
      T.errors("P:", "1:1 2:6");
      T.errors("F:\nS:\nG a\nS\nE\nR\nQ:\nH:\nC:\nX:", "4:1 5:1 6:1 7:1 8:1 9:1 10:1");
    });
    T.sentence("(in DIALECT 1 P: Q: H: C: X:)", () -> {
      T.steps("#1\nP:x\nH:x\nD a\nQ:x\nH:x\nD b\nC:x\nD c\nX:x\n|n|\n|m|", "[a,b,c]");
      T.errors("#1\nF:", "2:1 3:6");
      T.errors("#1\nP", "2:1 3:6");
      T.errors("#1\nP:\nC:\nD a\nR:\nB:\nS:\nE:\nF:", "5:1 6:1 7:1 8:1 9:1");
    });
  }

  private static void steps() {
    T.sentence("STEP: it begins with one of the signs G W T A *", () -> {
      T.steps("F:\nS:\nG a\nW b\nT c\nA d\n* e", "[a,b,c,d,e]");
      T.errors("F:\nS:\nG a\nD b\nN b\nZ b\nU b\ng b\n- b\nB b", "4:1 5:1 6:1 7:1 8:1 9:1 10:1");
    });
    T.sentence("(in DIALECT 1 D N Z U *)", () -> {
      T.steps("#1\nP:\nC:\nD a\nN b\nZ c\nU d\n* e", "[a,b,c,d,e]");
      T.errors("#1\nP:\nC:\nD a\nG b\nW b\nT b\nA b", "5:1 6:1 7:1 8:1");
    });
    T.sentence("and a blank", () -> {
      T.errors("F:\nS:\nG a\nGa", "4:1");
      T.errors("F:\nS:\nG a\nG", "4:1");
      T.errors("F:\nS:\nG a\n*", "4:1");
      T.errors("F:\nS:\nG a\n**", "4:1");
      T.steps("F:\nS:\nG a\n* *", "[a,*]");
    });
    T.sentence("its text is what comes behind, without blanks at both ends.", () -> {
      T.steps("F:\nS:\nG     a\nG b    \nG   c  d  \nG  G", "[a,b,c  d,G]");
    });
    T.sentence("Else OTHER.", () -> {
      for (String line : new String[] {"x", "Ga", "G", "F", ":", "\\", "a @a", "x|", "1", "P:", "D a"}) {
        T.errors("F:\n" + line + "\nS:\n" + line + "\nG a\n" + line, "6:1");
      }
    });
  }
}
