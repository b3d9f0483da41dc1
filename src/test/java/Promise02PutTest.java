/** Promise 2: put appends the lowest n bytes of a number, the highest of them first, or refuses all. */
public final class Promise02PutTest {
  public static void main(String[] args) {
    Check t = new Check();
    order(t);
    counts(t);
    characters(t);
    room(t);
    duringARun(t);
    t.end();
  }

  private static void order(Check t) {
    StoryDesk x = new StoryDesk();
    // F:\nS:\nG ab, with bytes above the lowest n that are to be passed over.
    t.yes("put 8", x.put(Check.bytes("F:\nS:\nG "), 8));
    t.yes("put 1 of more", x.put(0xFFFF_0000_00FF_0061L, 1));
    t.yes("put 2 of more", x.put(0x0102_6362L, 2));
    t.is("length", x.look(1), 11);
    t.is("read", x.read(), 0);
    t.is("text", t.stepText(x, 0, 0), "acb");
  }

  private static void counts(Check t) {
    for (int n = 1; n <= 8; n++) {
      StoryDesk x = new StoryDesk();
      t.yes("put " + n, x.put(0x6161616161616161L, n));
      t.is("length " + n, x.look(1), n);
    }
    int[] wrong = {0, -1, 9, 16, Integer.MAX_VALUE, Integer.MIN_VALUE};
    StoryDesk x = new StoryDesk();
    for (int n : wrong) {
      t.no("put " + n, x.put(0x6161616161616161L, n));
      t.is("length after " + n, x.look(1), 0);
    }
  }

  private static void characters(Check t) {
    StoryDesk x = new StoryDesk();
    int taken = 0;
    for (int one = 0; one < 256; one++) {
      if (one % 64 == 0) {
        x = new StoryDesk();
        taken = 0;
      }
      boolean due = one == 10 || one >= 32 && one <= 126;
      t.is("character " + one, x.put(one, 1) ? 1 : 0, due ? 1 : 0);
      taken += due ? 1 : 0;
      t.is("length", x.look(1), taken);
    }
    t.yes("one that is a character", x.put('x', 1));
    for (int place = 0; place < 8; place++) {
      long bytes = 0x6161616161616161L & ~(255L << 8 * place);
      t.no("no character at " + place, x.put(bytes, 8));
      t.no("a large one at " + place, x.put(bytes | 200L << 8 * place, 8));
    }
    t.is("nothing of them came in", x.look(1), 1);
  }

  private static void room(Check t) {
    StoryDesk x = new StoryDesk();
    for (int i = 0; i < 59; i++) {
      t.yes("put", x.put(0x2020202020202020L, 8));
    }
    t.yes("up to 477", x.put(0x2020202020L, 5));
    t.no("no room for 4", x.put(0x20202020L, 4));
    t.is("still 477", x.look(1), 477);
    t.yes("room for 3", x.put(0x202020L, 3));
    t.is("full", x.look(1), 480);
    t.no("no room for 1", x.put(0x20L, 1));
    t.is("stays full", x.look(1), 480);
    t.is("a full text can be read", x.read(), 1);
    t.is("and is empty then", x.look(1), 0);
    t.yes("room again", x.put(0x20L, 1));
  }

  private static void duringARun(Check t) {
    StoryDesk x = t.told("F:\nS:\nG a");
    x.start(1);
    t.yes("put during a run", x.put(97, 1));
    t.is("length", x.look(1), 1);
    x.go(40);
    t.is("the text stays over the end of the run", x.look(1), 1);
  }
}
