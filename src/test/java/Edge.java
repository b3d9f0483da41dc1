import java.util.function.BiFunction;
import java.util.function.Function;

/**
 * Looks at the document a sentence at a time: each is named by its own words, and has a test of its own.
 * What those tests ask over and over again is asked here, each time of a new object, and answered in few words.
 */
final class Edge extends Check {
  // What an object has read, or refused, before what is asked for: it is to leave nothing behind.
  private static final String ANOTHER = "#1\n@a @p\nP:\nH:\nD <n>\n@b\nQ:\nH:\nN y\n|1|2|3|4|\n|5|6|7|8|\nQ:\nC:\nZ w\n@c\n"
      + "X:\n|n|m|\n|9|9|\nX:\n|k|\n|8|\nC:\nU <m>\n|7|6|5|4|\n@d\nX:\n|n|m|\n|1|2|\nC:\nC:\nX:\nC:";
  private static final String NOT_FORMED = "{i}{d}(x)a/b/c{w}{s}y z{i}{d}(u/v";
  private static final String NO_TAG_EXPRESSION = "(!a|!b&!!c))&!!!!!!!!!!!(!a)|(";

  /** The ways into the states 0 .. 8 of a reading. */
  static final String[] STATES = {
    "", "F:", "F:\nB:", "F:\nB:\nG a", "F:\nS:", "F:\nS:\nG a", "F:\nS:\nE:", "F:\nS:\nE:\n|a|", "F:\nR:"
  };

  /** What may come in them, as the first characters of the lines that mayCome tries. */
  static final String[] MAY_COME = {"F@", "BSRx@", "SRGx@", "SRG|@", "SREGx@", "SREG|@", "SRE|x@", "SRE|@", "BSRx@"};

  /** One sentence of the document (or a part of one), and the test that fails if it is broken. */
  void sentence(String words, Runnable test) {
    int wrongBefore = wrong();
    int lookedBefore = looked();
    try {
      test.run();
    } catch (RuntimeException e) {
      say("threw " + e);
    }
    if (looked() == lookedBefore) {
      say("nothing was looked at");
    }
    if (wrong() > wrongBefore) {
      System.out.println("broken: " + words);
    }
  }

  /** A text of so many characters, in one line that is EMPTY. */
  StoryDesk filled(int length) {
    StoryDesk x = desk();
    put(x, "#".repeat(length));
    return x;
  }

  /** The errors of a text, each as line:number; read is to answer how many, and so it is when it reads it again. */
  String errorsOf(String text) {
    StoryDesk x = desk();
    is("how many errors of " + text, read(x, text), x.look(7));
    String first = errors(x);
    read(x, text);
    is("errors when it is read again: " + text, errors(x), first);
    return first;
  }

  void errors(String text, String due) {
    is("errors of " + text, errorsOf(text), due);
  }

  /** Which lines may come behind a text: those that have no error 1 there, each told by its first character. */
  String mayCome(String text) {
    int line = text.split("\n", -1).length + 1;
    StringBuilder may = new StringBuilder();
    for (String kind : new String[] {"F:", "B:", "S:", "R:", "E:", "G a", "|a|", "x", "@a"}) {
      if (!(" " + errorsOf(text + "\n" + kind) + " ").contains(" " + line + ":1 ")) {
        may.append(kind.charAt(0));
      }
    }
    return may.toString();
  }

  /** What a text tells is due of a new object, and of one that has read another text before. */
  private void toldOf(String what, String text, Function<StoryDesk, String> asked, String due) {
    is(what + " of " + text, asked.apply(told(text)), due);
    StoryDesk used = told(ANOTHER);
    is("read " + text, read(used, text), 0);
    is("another reading's " + what + " of " + text, asked.apply(used), due);
  }

  /** The texts of the steps of all cases: [a,b][c]. */
  void steps(String text, String due) {
    toldOf("steps", text, x -> ofSteps(x, ",", (story, step) -> stepText(x, story, step)), due);
  }

  /** The tables of the steps of all cases, cells parted by a comma, rows by a stroke: [1,2/3,4;5][]. */
  void tables(String text, String due) {
    toldOf("tables", text, x -> ofSteps(x, ";", (story, step) -> table(x, story, step)), due);
  }

  private String ofSteps(StoryDesk x, String between, BiFunction<Integer, Integer, String> asked) {
    StringBuilder all = new StringBuilder();
    for (int story = 0; story < x.look(2); story++) {
      all.append('[');
      for (int step = 0; step < x.story(story, 0); step++) {
        all.append(step == 0 ? "" : between).append(asked.apply(story, step));
      }
      all.append(']');
    }
    return all.toString();
  }

  private String table(StoryDesk x, int story, int step) {
    StringBuilder all = new StringBuilder();
    for (int r = 0; r < x.step(story, step, 1); r++) {
      all.append(r == 0 ? "" : "/");
      for (int c = 0; hasCell(x, story, step, r, c); c++) {
        all.append(c == 0 ? "" : ",").append(cellText(x, story, step, r, c));
      }
    }
    return all.toString();
  }

  private boolean hasCell(StoryDesk x, int story, int step, int r, int c) {
    try {
      x.cell(story, step, r, c, 0);
      return true;
    } catch (IndexOutOfBoundsException e) {
      return false;
    }
  }

  /** Of all cases, parted by blanks: the letters of the tags, - for none. */
  void tags(String text, String due) {
    toldOf("tags", text, Edge::tags, due);
  }

  private static String tags(StoryDesk x) {
    StringBuilder all = new StringBuilder();
    for (int story = 0; story < x.look(2); story++) {
      all.append(story == 0 ? "" : " ").append(x.story(story, 1) == 0 ? "-" : "");
      for (int tag = 0; tag < 32; tag++) {
        all.append((x.story(story, 1) >> tag & 1) == 1 ? "" + (char) ('a' + tag) : "");
      }
    }
    return all.toString();
  }

  /** Of all cases, parted by blanks: the line of the SCENARIO and that of the ROW of EXAMPLES, 2/4. */
  void lines(String text, String due) {
    toldOf("lines", text, Edge::lines, due);
  }

  private static String lines(StoryDesk x) {
    StringBuilder all = new StringBuilder();
    for (int story = 0; story < x.look(2); story++) {
      all.append(story == 0 ? "" : " ").append(x.story(story, 2)).append('/').append(x.story(story, 3));
    }
    return all.toString();
  }

  /** Expressions that are well formed. */
  void formed(String... expressions) {
    for (String expression : expressions) {
      is("well formed: " + expression, isFormed(expression) ? 1 : 0, 1);
    }
  }

  /** Expressions that are not. */
  void notFormed(String... expressions) {
    for (String expression : expressions) {
      is("well formed: " + expression, isFormed(expression) ? 1 : 0, 0);
    }
  }

  private boolean isFormed(String expression) {
    StoryDesk x = desk();
    put(x, NOT_FORMED);
    wrongArgument(NOT_FORMED, () -> x.define(0));
    try {
      return define(x, expression, 0) == 0;
    } catch (IllegalArgumentException e) {
      return false;
    }
  }

  /** Step's texts that an expression fits. */
  void fits(String expression, String... texts) {
    for (String text : texts) {
      is(expression + " fits '" + text + "'", bound(text, expression).step(0, 0, 3), 1);
    }
  }

  /** Step's texts that it does not fit. */
  void fitsNot(String expression, String... texts) {
    for (String text : texts) {
      is(expression + " fits '" + text + "'", bound(text, expression).step(0, 0, 3), 0);
    }
  }

  /** One step with a text, and definitions. A text that a line can't tell comes out of cells without characters. */
  StoryDesk bound(String text, String... expressions) {
    boolean plain = !text.isEmpty() && text.trim().equals(text);
    StoryDesk x = told(plain ? "F:\nS:\nG " + text : "F:\nS:\nG <>" + text + "<>\nE:\n||\n||");
    is("the text", stepText(x, 0, 0), text);
    put(x, NOT_FORMED);
    wrongArgument(NOT_FORMED, () -> x.define(0));
    for (String expression : expressions) {
      define(x, expression, 0);
    }
    return x;
  }

  /** The arguments of a step, each as begin+length, parted by blanks. */
  void arguments(String expression, String text, String due) {
    StoryDesk x = bound(text, expression);
    StringBuilder all = new StringBuilder();
    for (int k = 0; hasArgument(x, k); k++) {
      int place = x.argument(0, 0, k);
      all.append(k == 0 ? "" : " ").append(place / 100).append('+').append(place % 100);
    }
    is("arguments of " + expression + " in " + text, all.toString(), due);
  }

  private boolean hasArgument(StoryDesk x, int k) {
    try {
      x.argument(0, 0, k);
      return true;
    } catch (IndexOutOfBoundsException e) {
      return false;
    }
  }

  /** Tag expressions that hold for some tags, told as @a @b. */
  void holds(String tags, String... expressions) {
    for (String expression : expressions) {
      is(expression + " for " + tags, holdsFor(tags, expression), 1);
    }
  }

  /** Those that do not. */
  void holdsNot(String tags, String... expressions) {
    for (String expression : expressions) {
      is(expression + " for " + tags, holdsFor(tags, expression), 0);
    }
  }

  /** Texts that are no tag expressions. */
  void noTagExpressions(String... expressions) {
    for (String expression : expressions) {
      is("no tag expression: " + expression, holdsFor("@a", expression), -1);
    }
  }

  private int holdsFor(String tags, String expression) {
    StoryDesk x = told(tags + "\nF:\nS:");
    put(x, NO_TAG_EXPRESSION);
    wrongArgument(NO_TAG_EXPRESSION, x::filter);
    try {
      return filter(x, expression);
    } catch (IllegalArgumentException e) {
      return -1;
    }
  }

  /**
   * Does one step by a script of commands, told in pairs of command and k. Due is what became of it:
   * its STATUS, NUMBER, and the units waited for.
   */
  void done(String step, String expression, String due, int... pairs) {
    StoryDesk x = told("F:\nS:\nG " + step);
    define(x, expression, 0);
    script(x, 0, pairs);
    x.start(1);
    x.go(2);
    StringBuilder all = new StringBuilder();
    all.append(x.event(0, 3)).append(' ').append(x.world(0));
    x.go(1);
    all.append(' ').append(x.event(0, 2));
    is("step " + step + " of " + expression, all.toString(), due);
  }

  /** The same for a hook behind a step that made NUMBER 7. */
  void doneByHook(String due, int... pairs) {
    StoryDesk x = told("F:\nS:\nG 7\n|3|");
    define(x, "{i}", 0);
    script(x, 0, 0, 0);
    script(x, 1, pairs);
    hook(x, false, "", 1);
    x.start(1);
    x.go(3);
    StringBuilder all = new StringBuilder();
    all.append(x.event(0, 3)).append(' ').append(x.world(0));
    x.go(1);
    all.append(' ').append(x.event(0, 2));
    is("a hook", all.toString(), due);
  }

  /** Runs all cases by so many workers, and tells all events of it, the oldest first. */
  String run(StoryDesk x, int workers) {
    int before = x.look(6);
    x.start(workers);
    for (int i = 0; i < 30 && x.look(0) == 1; i++) {
      x.go(40);
    }
    return events(x, x.look(6) - before);
  }
}
