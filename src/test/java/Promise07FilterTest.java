/** Promise 7: filter makes the text the FILTER and counts the cases that fulfil it. */
public final class Promise07FilterTest {
  public static void main(String[] args) {
    Check t = new Check();
    meanings(t);
    exhaustive(t);
    theOldOneStays(t);
    overReadings(t);
    duringARun(t);
    t.end();
  }

  private static void meanings(Check t) {
    StoryDesk x = t.told("F:\nS:\n@a\nS:\n@b\nS:\n@a @b\nS:\n@p\nS:");
    String[] texts = {"", " ", "a", "b", "p", "c", "!a", "!!a", "a&b", "a|b", "a|b&p", "(a|b)&p", "!a&b", "!(a&b)", "!a|b", "! a & ! b", "a&!b|p"};
    int[] due = {5, 5, 2, 2, 1, 0, 3, 2, 1, 3, 2, 0, 1, 4, 4, 2, 2};
    for (int i = 0; i < texts.length; i++) {
      t.is("filter " + texts[i], t.filter(x, texts[i]), due[i]);
      t.is("the text is empty", x.look(1), 0);
      t.is("start counts the same", x.start(1), due[i]);
      while (x.look(0) == 1) {
        x.go(40);
      }
    }
    StringBuilder all = new StringBuilder();
    for (char tag = 'a'; tag <= 'p'; tag++) {
      StoryDesk y = t.told("@" + tag + "\nF:\nS:");
      t.is("tag " + tag, t.filter(y, "" + tag), 1);
      t.is("not " + tag, t.filter(y, "!" + tag), 0);
      all.append(all.length() == 0 ? "" : "|").append(tag);
      t.is("one of those up to " + tag, t.filter(y, all.toString()), 1);
    }
  }

  /** a op b op c with signs, brackets and all eight worlds, reckoned here in another way. */
  private static void exhaustive(Check t) {
    StringBuilder text = new StringBuilder("F:");
    for (int bits = 0; bits < 8; bits++) {
      text.append("\n@d");
      text.append((bits & 1) != 0 ? " @a" : "").append((bits & 2) != 0 ? " @b" : "").append((bits & 4) != 0 ? " @c" : "");
      text.append("\nS:");
    }
    StoryDesk x = t.told(text.toString());
    for (int form = 0; form < 96; form++) {
      boolean firstAnd = (form & 1) != 0;
      boolean secondAnd = (form & 2) != 0;
      int not = form >> 2 & 7;
      int brackets = form >> 5;
      int due = 0;
      for (int bits = 0; bits < 8; bits++) {
        boolean a = (bits & 1) != 0 != ((not & 1) != 0);
        boolean b = (bits & 2) != 0 != ((not & 2) != 0);
        boolean c = (bits & 4) != 0 != ((not & 4) != 0);
        boolean left = brackets == 1 || brackets == 0 && (firstAnd || !secondAnd);
        boolean value = left ? join(join(a, b, firstAnd), c, secondAnd) : join(a, join(b, c, secondAnd), firstAnd);
        due += value ? 1 : 0;
      }
      String one = ((not & 1) != 0 ? "!a" : "a") + (firstAnd ? "&" : "|");
      String two = ((not & 2) != 0 ? "!b" : "b") + (secondAnd ? " & " : " | ");
      String three = (not & 4) != 0 ? "!c" : "c";
      String whole = brackets == 0 ? one + two + three
          : brackets == 1 ? "(" + one + two.substring(0, two.length() - 3) + ")" + two.substring(two.length() - 3) + three
          : one + "(" + two + three + ")";
      t.is("filter " + whole, t.filter(x, whole), due);
      if (form % 32 == 31) {
        x = t.told(text.toString());
      }
    }
  }

  private static boolean join(boolean one, boolean other, boolean and) {
    return and ? one && other : one || other;
  }

  private static void theOldOneStays(Check t) {
    StoryDesk x = t.told("F:\n@a\nS:\n@b\nS:\n@a\nS:");
    t.is("a", t.filter(x, "a"), 2);
    String[] wrong = {"(b", "b b", "q", "b&", " ".repeat(41), "b".repeat(41)};
    for (String text : wrong) {
      t.put(x, text);
      t.wrongArgument("no tag expression: " + text, x::filter);
      t.is("the text is empty", x.look(1), 0);
      t.is("the old one stays", x.start(3), 2);
      x.go(40);
    }
  }

  private static void overReadings(Check t) {
    StoryDesk x = new StoryDesk();
    t.is("without cases", t.filter(x, "b"), 0);
    t.read(x, "F:\n@a\nS:\n@b\nS:\n@a @b\nS:");
    t.is("it stays over readings", x.start(1), 2);
    t.is("the first case of it", x.go(1), 1);
    t.is("is the second of all", x.event(0, 1), 1);
  }

  private static void duringARun(Check t) {
    StoryDesk x = t.told("F:\n@a\nS:\nS:");
    x.start(1);
    t.put(x, "a");
    t.wrongState("during a run", x::filter);
    t.is("the text stays", x.look(1), 1);
    t.put(x, "&");
    t.wrongState("no tag expression, during a run", x::filter);
    x.go(40);
    t.is("the old one stayed", x.start(1), 2);
  }
}
