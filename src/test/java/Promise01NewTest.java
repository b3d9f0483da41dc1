/** Promise 1: a new object has no text, cases, definitions, hooks, commands and run. */
public final class Promise01NewTest {
  public static void main(String[] args) {
    Check t = new Check();
    StoryDesk x = new StoryDesk();
    for (int what = 0; what <= 7; what++) {
      t.is("look " + what, x.look(what), 0);
    }
    t.outOfBounds("error 0", () -> x.error(0, 0));
    t.outOfBounds("story 0", () -> x.story(0, 0));
    t.outOfBounds("step 0 0", () -> x.step(0, 0, 0));
    t.outOfBounds("argument 0 0 0", () -> x.argument(0, 0, 0));
    t.outOfBounds("cell 0", () -> x.cell(0, 0, 0, 0, 0));
    t.is("event 0", x.event(0, 0), -1);
    for (int worker = 0; worker < 3; worker++) {
      t.is("world " + worker, x.world(worker), 0.0);
    }
    t.is("go", x.go(1), 0);
    t.is("filter is empty at first", x.filter(), 0);
    t.is("no commands: a script passes", statusOfEmptyScript(t), 0);
    t.is("one object knows nothing of another", new StoryDesk().look(3), 0);
    t.end();
  }

  private static int statusOfEmptyScript(Check t) {
    StoryDesk x = t.told("F:\nS:\nG a");
    t.define(x, "a", 7);
    x.start(1);
    x.go(40);
    return x.story(0, 4);
  }
}
