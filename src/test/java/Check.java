/** What the tests share: texts put in pieces of eight, answers that are due, and how a test ends. */
class Check {
  interface Call {
    long answer();
  }

  private int wrong;
  private int looked;

  static StoryDesk desk() {
    return new StoryDesk();
  }

  static long bytes(String piece) {
    long bytes = 0;
    for (int i = 0; i < piece.length(); i++) {
      bytes = bytes << 8 | piece.charAt(i) & 255;
    }
    return bytes;
  }

  void put(StoryDesk x, String text) {
    for (int i = 0; i < text.length(); i += 8) {
      String piece = text.substring(i, Math.min(text.length(), i + 8));
      yes("put " + piece, x.put(bytes(piece), piece.length()));
    }
  }

  int read(StoryDesk x, String text) {
    put(x, text);
    return x.read();
  }

  /** Reads a text that is to have no errors. */
  StoryDesk told(String text) {
    StoryDesk x = desk();
    is("read " + text, read(x, text), 0);
    return x;
  }

  int define(StoryDesk x, String text, int script) {
    put(x, text);
    return x.define(script);
  }

  int hook(StoryDesk x, boolean before, String tags, int script) {
    put(x, tags);
    return x.hook(before, script);
  }

  int filter(StoryDesk x, String tags) {
    put(x, tags);
    return x.filter();
  }

  /** Commands are told in pairs: the command and its k. */
  void script(StoryDesk x, int script, int... pairs) {
    for (int i = 0; i < pairs.length; i += 2) {
      yes("command " + pairs[i], x.command(script, pairs[i], pairs[i + 1]));
    }
  }

  String stepText(StoryDesk x, int story, int step) {
    StringBuilder text = new StringBuilder();
    for (int k = 0; k <= 60; k++) {
      int letter = x.step(story, step, 100 + k);
      if (letter < 0) {
        break;
      }
      text.append((char) letter);
    }
    return text.toString();
  }

  String cellText(StoryDesk x, int story, int step, int r, int c) {
    StringBuilder text = new StringBuilder();
    for (int i = 0; i <= 60; i++) {
      int letter = x.cell(story, step, r, c, i);
      if (letter < 0) {
        break;
      }
      text.append((char) letter);
    }
    return text.toString();
  }

  /** All errors of the latest reading, each as line:number. */
  String errors(StoryDesk x) {
    StringBuilder all = new StringBuilder();
    for (int k = 0; k < x.look(7); k++) {
      all.append(k == 0 ? "" : " ").append(x.error(k, 0)).append(':').append(x.error(k, 1));
    }
    return all.toString();
  }

  /** The latest events, the oldest first, each as its four numbers. */
  String events(StoryDesk x, int count) {
    StringBuilder all = new StringBuilder();
    for (int k = count - 1; k >= 0; k--) {
      all.append(all.length() == 0 ? "" : " ");
      all.append(x.event(k, 0)).append(x.event(k, 1)).append(x.event(k, 2)).append(x.event(k, 3));
    }
    return all.toString();
  }

  void is(String what, long got, long due) {
    looked++;
    if (got != due) {
      say(what + " answered " + got + ", due is " + due);
    }
  }

  /** The sign of a zero counts, too. */
  void is(String what, double got, double due) {
    looked++;
    if (Double.compare(got, due) != 0) {
      say(what + " answered " + got + ", due is " + due);
    }
  }

  void is(String what, String got, String due) {
    looked++;
    if (!got.equals(due)) {
      say(what + " answered '" + got + "', due is '" + due + "'");
    }
  }

  void yes(String what, boolean got) {
    is(what, got ? 1 : 0, 1);
  }

  void no(String what, boolean got) {
    is(what, got ? 1 : 0, 0);
  }

  void outOfBounds(String what, Call call) {
    fails(what, IndexOutOfBoundsException.class, call);
  }

  void wrongState(String what, Call call) {
    fails(what, IllegalStateException.class, call);
  }

  void wrongArgument(String what, Call call) {
    fails(what, IllegalArgumentException.class, call);
  }

  void unsupported(String what, Call call) {
    fails(what, UnsupportedOperationException.class, call);
  }

  private void fails(String what, Class<? extends RuntimeException> due, Call call) {
    looked++;
    try {
      long got = call.answer();
      say(what + " answered " + got + ", due is " + due.getSimpleName());
    } catch (RuntimeException e) {
      if (e.getClass() != due) {
        say(what + " threw " + e + ", due is " + due.getSimpleName());
      }
    }
  }

  final int wrong() {
    return wrong;
  }

  final int looked() {
    return looked;
  }

  final void say(String text) {
    wrong++;
    System.out.println(text);
  }

  void end() {
    System.out.println(looked + " answers looked at, " + wrong + " wrong");
    if (wrong > 0 || looked == 0) {
      System.exit(1);
    }
  }
}
