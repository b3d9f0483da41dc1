import java.util.ArrayDeque;
import java.util.ArrayList;
import java.util.Deque;
import java.util.List;
import java.util.regex.Matcher;
import java.util.regex.Pattern;

/**
 * The document once more, written for plainness and with the whole library: strings, lists and
 * regular expressions. Random runs compare the program with it. A call that throws answers its exception.
 */
final class Model {
  static final class Step {
    int line;
    String text;
    List<List<String>> rows = new ArrayList<>();
  }

  static final class Examples {
    int tags;
    List<List<String>> rows = new ArrayList<>();
    List<Integer> lines = new ArrayList<>();
  }

  static final class Block {
    int line;
    int tags;
    Block section;
    List<Step> steps = new ArrayList<>();
    List<Examples> examples = new ArrayList<>();
  }

  static final class Story {
    int line;
    int row;
    int tags;
    int status = -1;
    List<Step> steps = new ArrayList<>();
  }

  static final class Definition {
    Pattern pattern;
    String kinds = "";
    int script;
  }

  static final class Hook {
    boolean before;
    String tags;
    int script;
  }

  static final class Worker {
    Story story;
    double number;
    int worst;
    Deque<int[]> plan = new ArrayDeque<>();
  }

  private static final RuntimeException STATE = new IllegalStateException();
  private static final RuntimeException ARGUMENT = new IllegalArgumentException();
  private static final RuntimeException BOUNDS = new IndexOutOfBoundsException();
  private static final RuntimeException UNSUPPORTED = new UnsupportedOperationException();

  String text = "";
  int dialect;
  List<int[]> errors = new ArrayList<>();
  List<Story> stories = new ArrayList<>();
  List<Definition> definitions = new ArrayList<>();
  List<Hook> hooks = new ArrayList<>();
  List<List<int[]>> scripts = new ArrayList<>();
  String filter = "";
  boolean underWay;
  Worker[] workers = new Worker[0];
  int turn;
  Deque<Story> waiting = new ArrayDeque<>();
  int worst;
  int units;
  List<int[]> events = new ArrayList<>();

  Model() {
    for (int i = 0; i < 8; i++) {
      scripts.add(new ArrayList<>());
    }
  }

  boolean put(long bytes, int n) {
    if (n < 1 || n > 8) {
      return false;
    }
    String more = "";
    for (int i = 0; i < n; i++) {
      more = (char) (bytes >> 8 * i & 255) + more;
    }
    if (!more.matches("[\n -~]*") || text.length() + n > 480) {
      return false;
    }
    text += more;
    return true;
  }

  private static String bare(String line) {
    return line.replaceAll("^ +| +$", "");
  }

  private static String cut(String text) {
    return text.substring(0, Math.min(60, text.length()));
  }

  /** The kind as one letter: F R B S E for the heads, G | x for STEP, ROW and OTHER, @ and a blank for TAGS and EMPTY. */
  private char kind(String line) {
    String heads = dialect == 1 ? "PQHCX" : "FRBSE";
    if (line.isEmpty() || line.startsWith("#")) {
      return ' ';
    }
    if (line.startsWith("@") || line.startsWith("|")) {
      return line.charAt(0);
    }
    if (line.matches("[" + heads + "]:.*")) {
      return "FRBSE".charAt(heads.indexOf(line.charAt(0)));
    }
    return line.matches(dialect == 1 ? "[DNZU*] .*" : "[GWTA*] .*") ? 'G' : 'x';
  }

  int read() {
    if (underWay) {
      throw STATE;
    }
    String[] may = {"F", "BSRx", "GSRx", "G|SR", "GSREx", "G|SRE", "|SREx", "|SRE", "BSRx"};
    String[] lines = text.split("\n", -1);
    text = "";
    errors.clear();
    stories.clear();
    dialect = bare(lines[0]).equals("#1") ? 1 : 0;
    int state = 0;
    int tags = 0;
    int steps = 0;
    int rows = 0;
    int examples = 0;
    Block feature = null;
    Block section = null;
    Block owner = null;
    List<List<String>> table = null;
    List<Integer> tableLines = null;
    int rules = 0;
    List<Block> scenarios = new ArrayList<>();
    for (int n = 1; n <= lines.length; n++) {
      String line = bare(lines[n - 1]);
      char kind = kind(line);
      if (kind == ' ') {
        continue;
      }
      boolean mayCome = kind == '@' || may[state].indexOf(kind) >= 0 && (tags == 0 || "FSRE".indexOf(kind) >= 0);
      List<String> cells = new ArrayList<>();
      int error = 0;
      if (kind == '|' && line.length() > 1) {
        for (String cell : line.substring(1, line.length() - 1).split("\\|", -1)) {
          cells.add(cut(bare(cell)));
        }
      }
      if (!mayCome) {
        error = 1;
      } else if (kind == '@' && !line.matches("@[a-p]( +@[a-p])*")) {
        error = 2;
      } else if (kind == '|' && (!line.matches("\\|.*\\|") || cells.size() > 4)) {
        error = 3;
      } else if (kind == '|' && !table.isEmpty() && table.get(0).size() != cells.size()) {
        error = 4;
      } else if (kind == 'S' && scenarios.size() == 12 || kind == 'G' && steps == 30 || kind == '|' && rows == 40
          || kind == 'E' && examples == 12 || kind == 'R' && rules == 4) {
        error = 5;
      }
      if (error > 0) {
        errors.add(new int[] {n, error});
        continue;
      }
      switch (kind) {
        case '@':
          for (String word : line.split(" +")) {
            tags |= 1 << word.charAt(1) - 'a';
          }
          continue;
        case 'F':
        case 'R':
        case 'S':
          Block block = new Block();
          block.line = n;
          block.tags = tags;
          tags = 0;
          if (kind == 'S') {
            block.section = section;
            scenarios.add(block);
            owner = block;
            state = 4;
          } else {
            section = block;
            feature = kind == 'F' ? block : feature;
            rules += kind == 'R' ? 1 : 0;
            state = kind == 'F' ? 1 : 8;
          }
          break;
        case 'B':
          owner = section;
          state = 2;
          break;
        case 'E':
          Examples one = new Examples();
          one.tags = tags;
          tags = 0;
          examples++;
          owner.examples.add(one);
          table = one.rows;
          tableLines = one.lines;
          state = 6;
          break;
        case 'G':
          Step step = new Step();
          step.line = n;
          step.text = cut(bare(line.substring(1)));
          steps++;
          owner.steps.add(step);
          table = step.rows;
          tableLines = new ArrayList<>();
          state = state < 4 ? 3 : 5;
          break;
        case '|':
          rows++;
          table.add(cells);
          tableLines.add(n);
          state = state == 6 ? 7 : state;
          break;
        default:
          break;
      }
    }
    if (feature == null) {
      errors.add(new int[] {lines.length + 1, 6});
    }
    if (tags != 0) {
      errors.add(new int[] {lines.length + 1, 7});
    }
    errors = new ArrayList<>(errors.subList(0, Math.min(20, errors.size())));
    if (errors.isEmpty()) {
      makeStories(feature, scenarios);
    }
    return errors.size();
  }

  private void makeStories(Block feature, List<Block> scenarios) {
    for (Block scenario : scenarios) {
      if (scenario.examples.isEmpty()) {
        add(feature, scenario, null, 0);
      }
      for (Examples examples : scenario.examples) {
        for (int r = 1; r < examples.rows.size(); r++) {
          add(feature, scenario, examples, r);
        }
      }
    }
    stories = new ArrayList<>(stories.subList(0, Math.min(24, stories.size())));
  }

  private void add(Block feature, Block scenario, Examples examples, int r) {
    Story story = new Story();
    story.line = scenario.line;
    story.row = examples == null ? 0 : examples.lines.get(r);
    story.tags = feature.tags | scenario.section.tags | scenario.tags | (examples == null ? 0 : examples.tags);
    if (!scenario.steps.isEmpty()) {
      story.steps.addAll(feature.steps);
      if (scenario.section != feature) {
        story.steps.addAll(scenario.section.steps);
      }
      for (Step step : scenario.steps) {
        story.steps.add(examples == null ? step : filled(step, examples, r));
      }
    }
    stories.add(story);
  }

  private static Step filled(Step step, Examples examples, int r) {
    Step filled = new Step();
    filled.line = step.line;
    filled.text = filled(step.text, examples.rows.get(0), examples.rows.get(r));
    for (List<String> row : step.rows) {
      List<String> cells = new ArrayList<>();
      for (String cell : row) {
        cells.add(filled(cell, examples.rows.get(0), examples.rows.get(r)));
      }
      filled.rows.add(cells);
    }
    return filled;
  }

  private static String filled(String text, List<String> names, List<String> values) {
    StringBuilder pattern = new StringBuilder();
    for (String name : names) {
      pattern.append(pattern.length() == 0 ? "" : "|").append("(<").append(Pattern.quote(name)).append(">)");
    }
    Matcher matcher = Pattern.compile(pattern.toString()).matcher(text);
    StringBuilder out = new StringBuilder();
    int at = 0;
    while (matcher.find()) {
      out.append(text, at, matcher.start());
      int column = 0;
      while (matcher.group(column + 1) == null) {
        column++;
      }
      out.append(values.get(column));
      at = matcher.end();
    }
    return cut(out.append(text.substring(at)).toString());
  }

  int error(int k, int what) {
    if (k < 0 || k >= errors.size() || what < 0 || what > 1) {
      throw BOUNDS;
    }
    return errors.get(k)[what];
  }

  /** The expression as a pattern of the library, which tries the ways in the same order; null if it is not well formed. */
  private static Definition expression(String text) {
    if (text.isEmpty() || text.length() > 60) {
      return null;
    }
    String ordinary = "(?:\\\\[\\s\\S]|[^{}()/\\\\ ])";
    String optional = "\\((?:\\\\[\\s\\S]|[^)\\\\])+\\)";
    String word = ordinary + "+(?:/" + ordinary + "+)*+(?!/)";
    Matcher parts = Pattern.compile("\\G(?:\\{([idws])\\}|(" + optional + ")| |(" + word + "))").matcher(text);
    Definition made = new Definition();
    StringBuilder pattern = new StringBuilder();
    int at = 0;
    boolean wordBefore = false;
    while (at < text.length()) {
      if (!parts.find() || parts.start() != at || wordBefore && parts.group(3) != null) {
        return null;
      }
      at = parts.end();
      wordBefore = parts.group(3) != null;
      if (parts.group(1) != null) {
        String kind = parts.group(1);
        made.kinds += kind;
        pattern.append(kind.equals("i") ? "(-?[0-9]{1,9})" : kind.equals("d") ? "(-?[0-9]{1,6}\\.[0-9]{1,3})"
            : kind.equals("w") ? "([^ ]+)" : "\"([^\"]*)\"");
      } else if (parts.group(2) != null) {
        pattern.append("(?:").append(literal(parts.group(2).substring(1, parts.group(2).length() - 1))).append(")?");
      } else if (parts.group(3) != null) {
        Matcher alternatives = Pattern.compile("(" + ordinary + "+)(/|$)").matcher(parts.group(3));
        pattern.append("(?:");
        while (alternatives.find()) {
          pattern.append(literal(alternatives.group(1))).append(alternatives.group(2).isEmpty() ? "" : "|");
        }
        pattern.append(")");
      } else {
        pattern.append(" ");
      }
    }
    made.pattern = Pattern.compile(pattern.toString());
    return made.kinds.length() > 6 ? null : made;
  }

  private static String literal(String text) {
    return Pattern.quote(text.replaceAll("\\\\([\\s\\S])", "$1"));
  }

  int define(int script) {
    if (underWay) {
      throw STATE;
    }
    Definition made = expression(text);
    text = "";
    if (made == null || script < 0 || script > 7) {
      throw ARGUMENT;
    }
    if (definitions.size() == 12) {
      throw UNSUPPORTED;
    }
    made.script = script;
    definitions.add(made);
    return definitions.size() - 1;
  }

  /** By rewriting: letters become 0 or 1, and what can be reckoned is, until one sign is left; -1 if none is. */
  static int holds(String text, int tags) {
    if (text.length() > 40 || text.contains("0") || text.contains("1")) {
      return -1;
    }
    String left = text.replace(" ", "");
    if (left.isEmpty()) {
      return 1;
    }
    for (char tag = 'a'; tag <= 'p'; tag++) {
      left = left.replace(tag, (tags >> tag - 'a' & 1) == 1 ? '1' : '0');
    }
    String before = "";
    while (!before.equals(left)) {
      before = left;
      String[][] rules = {
        {"!0", "1"}, {"!1", "0"}, {"\\(0\\)", "0"}, {"\\(1\\)", "1"},
        {"(?<![!])1&1", "1"}, {"(?<![!])(0&[01]|1&0)", "0"},
        {"(?<![!&])(1\\|[01]|0\\|1)(?!&)", "1"}, {"(?<![!&])0\\|0(?!&)", "0"}
      };
      for (String[] rule : rules) {
        String next = left.replaceFirst(rule[0], rule[1]);
        if (!next.equals(left)) {
          left = next;
          break;
        }
      }
    }
    return left.equals("1") ? 1 : left.equals("0") ? 0 : -1;
  }

  int hook(boolean before, int script) {
    if (underWay) {
      throw STATE;
    }
    Hook made = new Hook();
    made.before = before;
    made.tags = text;
    made.script = script;
    text = "";
    if (holds(made.tags, 0) < 0 || script < 0 || script > 7) {
      throw ARGUMENT;
    }
    if (hooks.size() == 8) {
      throw UNSUPPORTED;
    }
    hooks.add(made);
    return hooks.size() - 1;
  }

  int filter() {
    if (underWay) {
      throw STATE;
    }
    String next = text;
    text = "";
    if (holds(next, 0) < 0) {
      throw ARGUMENT;
    }
    filter = next;
    return (int) stories.stream().filter(s -> holds(filter, s.tags) == 1).count();
  }

  boolean command(int script, int command, int k) {
    if (underWay || script < 0 || script > 7 || command < 0 || command > 8 || scripts.get(script).size() == 4) {
      return false;
    }
    scripts.get(script).add(new int[] {command, k});
    return true;
  }

  int story(int story, int what) {
    if (story < 0 || story >= stories.size() || what < 0 || what > 4) {
      throw BOUNDS;
    }
    Story s = stories.get(story);
    return new int[] {s.steps.size(), s.tags, s.line, s.row, s.status}[what];
  }

  private Step stepOf(int story, int step) {
    if (story < 0 || story >= stories.size() || step < 0 || step >= stories.get(story).steps.size()) {
      throw BOUNDS;
    }
    return stories.get(story).steps.get(step);
  }

  private List<Integer> fitting(Step step) {
    List<Integer> found = new ArrayList<>();
    for (int i = 0; i < definitions.size(); i++) {
      if (definitions.get(i).pattern.matcher(step.text).matches()) {
        found.add(i);
      }
    }
    return found;
  }

  int step(int story, int step, int what) {
    Step s = stepOf(story, step);
    List<Integer> fitting = fitting(s);
    if (what >= 100 && what <= 160) {
      return what - 100 < s.text.length() ? s.text.charAt(what - 100) : -1;
    }
    if (what < 0 || what > 3) {
      throw BOUNDS;
    }
    int bound = fitting.isEmpty() ? -1 : fitting.size() > 1 ? -2 : fitting.get(0);
    return new int[] {s.line, s.rows.size(), bound, fitting.size()}[what];
  }

  int argument(int story, int step, int k) {
    Step s = stepOf(story, step);
    List<Integer> fitting = fitting(s);
    if (fitting.size() != 1) {
      throw UNSUPPORTED;
    }
    Matcher matcher = definitions.get(fitting.get(0)).pattern.matcher(s.text);
    if (!matcher.matches() || k < 0 || k >= matcher.groupCount()) {
      throw BOUNDS;
    }
    return matcher.start(k + 1) * 100 + matcher.group(k + 1).length();
  }

  int cell(int story, int step, int r, int c, int i) {
    Step s = stepOf(story, step);
    if (r < 0 || r >= s.rows.size() || c < 0 || c >= s.rows.get(r).size() || i < 0 || i > 60) {
      throw BOUNDS;
    }
    String text = s.rows.get(r).get(c);
    return i < text.length() ? text.charAt(i) : -1;
  }

  int start(int count) {
    if (underWay) {
      throw STATE;
    }
    if (count < 1 || count > 3) {
      throw ARGUMENT;
    }
    workers = new Worker[count];
    for (int i = 0; i < count; i++) {
      workers[i] = new Worker();
    }
    turn = 0;
    worst = 0;
    units = 0;
    waiting.clear();
    for (Story story : stories) {
      story.status = -1;
      if (holds(filter, story.tags) == 1) {
        waiting.add(story);
      }
    }
    int cases = waiting.size();
    underWay = true;
    tell(0, cases, count, 0);
    endIfOver();
    return cases;
  }

  private void tell(int... event) {
    events.add(event);
  }

  private void endIfOver() {
    boolean busy = !waiting.isEmpty();
    for (Worker worker : workers) {
      busy |= worker.story != null;
    }
    if (!busy) {
      underWay = false;
      tell(5, worst, units, 0);
    }
  }

  int go(int n) {
    if (n < 1 || n > 40) {
      return -1;
    }
    int made = 0;
    while (underWay && made < n) {
      while (workers[turn].story == null && waiting.isEmpty()) {
        turn = (turn + 1) % workers.length;
      }
      int name = turn;
      turn = (turn + 1) % workers.length;
      move(name, workers[name]);
      endIfOver();
      made++;
    }
    return made;
  }

  private void move(int name, Worker worker) {
    if (worker.story == null) {
      take(name, worker);
      return;
    }
    int story = stories.indexOf(worker.story);
    int[] act = worker.plan.remove();
    if (act[0] == 4) {
      tell(4, story, worker.worst, name);
      worker.story.status = worker.worst;
      worst = Math.max(worst, worker.worst);
      worker.story = null;
      return;
    }
    int status;
    if (act[0] == 2) {
      Hook hook = hooks.get(act[1]);
      status = hook.before && worker.worst > 0 ? 1 : perform(hook.script, worker, null, null);
    } else {
      Step step = worker.story.steps.get(act[1]);
      List<Integer> fitting = fitting(step);
      status = fitting.isEmpty() ? 3 : fitting.size() > 1 ? 4 : worker.worst > 0 ? 1
          : perform(definitions.get(fitting.get(0)).script, worker, step, definitions.get(fitting.get(0)));
    }
    worker.worst = Math.max(worker.worst, status);
    tell(act[0], story, act[1], status);
  }

  private void take(int name, Worker worker) {
    worker.story = waiting.remove();
    worker.number = 0;
    worker.worst = 0;
    worker.plan.clear();
    for (int i = 0; i < hooks.size(); i++) {
      if (hooks.get(i).before && holds(hooks.get(i).tags, worker.story.tags) == 1) {
        worker.plan.add(new int[] {2, i});
      }
    }
    for (int i = 0; i < worker.story.steps.size(); i++) {
      worker.plan.add(new int[] {3, i});
    }
    for (int i = hooks.size() - 1; i >= 0; i--) {
      if (!hooks.get(i).before && holds(hooks.get(i).tags, worker.story.tags) == 1) {
        worker.plan.add(new int[] {2, i});
      }
    }
    worker.plan.add(new int[] {4});
    tell(1, stories.indexOf(worker.story), name, 0);
  }

  private int perform(int script, Worker worker, Step step, Definition bound) {
    Matcher arguments = bound == null ? null : bound.pattern.matcher(step.text);
    int count = arguments != null && arguments.matches() ? arguments.groupCount() : 0;
    int waited = 0;
    for (int[] command : scripts.get(script)) {
      int k = command[1];
      String argument = k >= 0 && k < count ? arguments.group(k + 1) : null;
      if (command[0] <= 3) {
        if (argument == null || "id".indexOf(bound.kinds.charAt(k)) < 0) {
          return 5;
        }
        double value = value(argument);
        if (command[0] == 3 && worker.number != value) {
          return 5;
        }
        worker.number = command[0] == 0 ? value : command[0] == 1 ? worker.number + value
            : command[0] == 2 ? worker.number * value : worker.number;
      } else if (command[0] == 4) {
        if (argument == null) {
          return 5;
        }
        worker.number += argument.length();
      } else if (command[0] == 5 && step != null) {
        for (List<String> row : step.rows) {
          for (String cell : row) {
            if (cell.matches("-?[0-9]{1,9}")) {
              worker.number += Integer.parseInt(cell);
            }
            if (Math.abs(worker.number) > 1e9) {
              return 5;
            }
          }
        }
      } else if (command[0] == 6) {
        return 5;
      } else if (command[0] == 7) {
        return 2;
      } else if (command[0] == 8) {
        for (int i = 0; i < k; i++) {
          if (waited == 50) {
            return 5;
          }
          waited++;
          units++;
        }
      }
      if (Math.abs(worker.number) > 1e9) {
        return 5;
      }
    }
    return 0;
  }

  private static double value(String argument) {
    int point = argument.indexOf('.');
    if (point < 0) {
      return Integer.parseInt(argument);
    }
    int digits = Integer.parseInt(argument.replace(".", ""));
    return digits / new double[] {1, 10, 100, 1000}[argument.length() - point - 1];
  }

  int event(int k, int what) {
    if (k < 0 || k > 63 || k >= events.size() || what < 0 || what > 3) {
      return -1;
    }
    return events.get(events.size() - 1 - k)[what];
  }

  double world(int worker) {
    return worker < 0 || worker >= workers.length || workers[worker].story == null ? 0 : workers[worker].number;
  }

  int look(int what) {
    int[] all = {
      underWay ? 1 : 0, text.length(), stories.size(), definitions.size(), hooks.size(), dialect, events.size(), errors.size()
    };
    return what < 0 || what > 7 ? -1 : all[what];
  }
}
