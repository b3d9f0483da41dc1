/**
 * Stories in lines are read, made into cases, bound step by step to definitions,
 * and run by some workers in turns, all of which is told as a row of events.
 *
 * Every row is made in the constructors and used again: no call makes an object
 * but the exception that it throws.
 */
public final class StoryDesk {
  private static final int TEXT_LIMIT = 480;
  private static final int PIECE_LIMIT = 60;
  private static final int MOST_DEFINITIONS = 12;
  private static final int MOST_HOOKS = 8;
  private static final int MOST_WORKERS = 3;
  private static final int MOST_MOVES = 40;
  private static final int FIRST_LETTER = 100;
  private static final int NONE_FITS = -1;
  private static final int SEVERAL_FIT = -2;

  private static final int PASSED = 0;
  private static final int SKIPPED = 1;
  private static final int PENDING = 2;
  private static final int UNDEFINED = 3;
  private static final int AMBIGUOUS = 4;
  private static final int FAILED = 5;

  private static final int RUN_BEGINS = 0;
  private static final int CASE_BEGINS = 1;
  private static final int HOOK_DONE = 2;
  private static final int STEP_DONE = 3;
  private static final int CASE_OVER = 4;
  private static final int RUN_OVER = 5;

  private final Letters text;
  private final Reading reading;
  private final Cases cases;
  private final Scripts scripts;
  private final Run run;

  // One place more than may be kept: a text is looked at there before it is refused for want of room.
  private final Expression[] definitions;
  private final int[] definitionScripts;
  private int definitionCount;
  private final TagExpression[] hookTags;
  private final boolean[] hookBefore;
  private final int[] hookScripts;
  private int hookCount;

  // Two, so that the old filter is still whole when the new one turns out to be none.
  private TagExpression filterInUse;
  private TagExpression filterToTry;

  public StoryDesk() {
    text = new Letters(TEXT_LIMIT);
    reading = new Reading();
    cases = new Cases(reading);
    scripts = new Scripts();
    run = new Run();
    definitions = new Expression[MOST_DEFINITIONS + 1];
    for (int i = 0; i < definitions.length; i++) {
      definitions[i] = new Expression();
    }
    definitionScripts = new int[MOST_DEFINITIONS];
    hookTags = new TagExpression[MOST_HOOKS + 1];
    for (int i = 0; i < hookTags.length; i++) {
      hookTags[i] = new TagExpression();
    }
    hookBefore = new boolean[MOST_HOOKS];
    hookScripts = new int[MOST_HOOKS];
    filterInUse = new TagExpression();
    filterToTry = new TagExpression();
  }

  public boolean put(long bytes, int n) {
    if (n < 1 || n > 8 || text.length + n > TEXT_LIMIT) {
      return false;
    }
    for (int i = 0; i < n; i++) {
      int one = (int) (bytes >>> (8 * i)) & 255;
      if (one != 10 && (one < 32 || one > 126)) {
        return false;
      }
    }
    for (int i = n - 1; i >= 0; i--) {
      text.add((char) ((int) (bytes >>> (8 * i)) & 255));
    }
    return true;
  }

  public int read() throws IllegalStateException {
    if (run.underWay) {
      throw new IllegalStateException();
    }
    reading.take(text);
    text.length = 0;
    cases.build();
    return reading.errors;
  }

  public int error(int k, int what) throws IndexOutOfBoundsException {
    if (k < 0 || k >= reading.errors || what < 0 || what > 1) {
      throw new IndexOutOfBoundsException();
    }
    return what == 0 ? reading.errorLines[k] : reading.errorNumbers[k];
  }

  public int define(int script) throws IllegalStateException, IllegalArgumentException, UnsupportedOperationException {
    if (run.underWay) {
      throw new IllegalStateException();
    }
    boolean formed = definitions[definitionCount].take(text);
    text.length = 0;
    if (!formed || !scripts.has(script)) {
      throw new IllegalArgumentException();
    }
    if (definitionCount >= MOST_DEFINITIONS) {
      throw new UnsupportedOperationException();
    }
    definitionScripts[definitionCount] = script;
    definitionCount++;
    return definitionCount - 1;
  }

  public int hook(boolean before, int script) throws IllegalStateException, IllegalArgumentException, UnsupportedOperationException {
    if (run.underWay) {
      throw new IllegalStateException();
    }
    boolean formed = hookTags[hookCount].take(text);
    text.length = 0;
    if (!formed || !scripts.has(script)) {
      throw new IllegalArgumentException();
    }
    if (hookCount >= MOST_HOOKS) {
      throw new UnsupportedOperationException();
    }
    hookBefore[hookCount] = before;
    hookScripts[hookCount] = script;
    hookCount++;
    return hookCount - 1;
  }

  public int filter() throws IllegalStateException, IllegalArgumentException {
    if (run.underWay) {
      throw new IllegalStateException();
    }
    boolean formed = filterToTry.take(text);
    text.length = 0;
    if (!formed) {
      throw new IllegalArgumentException();
    }
    TagExpression old = filterInUse;
    filterInUse = filterToTry;
    filterToTry = old;
    int fulfilled = 0;
    for (int i = 0; i < cases.count; i++) {
      if (filterInUse.holds(cases.all[i].tags)) {
        fulfilled++;
      }
    }
    return fulfilled;
  }

  public boolean command(int script, int command, int k) {
    return !run.underWay && scripts.append(script, command, k);
  }

  public int story(int story, int what) throws IndexOutOfBoundsException {
    if (story < 0 || story >= cases.count || what < 0 || what > 4) {
      throw new IndexOutOfBoundsException();
    }
    Case one = cases.all[story];
    if (what == 0) {
      return cases.stepCount(one);
    }
    if (what == 1) {
      return one.tags;
    }
    if (what == 2) {
      return one.scenario.line;
    }
    if (what == 3) {
      return one.values == null ? 0 : one.values.line;
    }
    return one.status;
  }

  public int step(int story, int step, int what) throws IndexOutOfBoundsException {
    boolean letter = what >= FIRST_LETTER && what <= FIRST_LETTER + PIECE_LIMIT;
    if (!cases.hasStep(story, step) || !letter && (what < 0 || what > 3)) {
      throw new IndexOutOfBoundsException();
    }
    Case one = cases.all[story];
    if (what == 0) {
      return cases.stepOf(one, step).line;
    }
    if (what == 1) {
      return cases.stepOf(one, step).count;
    }
    cases.fillStep(one, step);
    if (letter) {
      return cases.stepText.at(what - FIRST_LETTER);
    }
    return what == 2 ? boundDefinition() : fittingCount();
  }

  public int argument(int story, int step, int k) throws IndexOutOfBoundsException, UnsupportedOperationException {
    if (!cases.hasStep(story, step)) {
      throw new IndexOutOfBoundsException();
    }
    cases.fillStep(cases.all[story], step);
    int bound = boundDefinition();
    if (bound < 0) {
      throw new UnsupportedOperationException();
    }
    Expression expression = definitions[bound];
    if (!expression.hasArgument(k)) {
      throw new IndexOutOfBoundsException();
    }
    expression.placeArguments(cases.stepText);
    return expression.begins[k] * 100 + expression.lengths[k];
  }

  public int cell(int story, int step, int r, int c, int i) throws IndexOutOfBoundsException {
    if (!cases.hasStep(story, step) || i < 0 || i > PIECE_LIMIT) {
      throw new IndexOutOfBoundsException();
    }
    Case one = cases.all[story];
    if (!cases.hasCell(one, step, r, c)) {
      throw new IndexOutOfBoundsException();
    }
    cases.fillCell(one, step, r, c);
    return cases.cellText.at(i);
  }

  public int start(int workers) throws IllegalStateException, IllegalArgumentException {
    if (run.underWay) {
      throw new IllegalStateException();
    }
    if (workers < 1 || workers > MOST_WORKERS) {
      throw new IllegalArgumentException();
    }
    run.clear(workers);
    for (int i = 0; i < cases.count; i++) {
      Case one = cases.all[i];
      one.status = -1;
      if (filterInUse.holds(one.tags)) {
        run.enqueue(i);
      }
    }
    run.tell(RUN_BEGINS, run.queued, workers, 0);
    run.endIfNothingIsLeft();
    return run.queued;
  }

  public int go(int n) {
    if (n < 1 || n > MOST_MOVES) {
      return -1;
    }
    int made = 0;
    while (made < n && run.underWay) {
      move(run.workers[run.takeTurn()]);
      run.endIfNothingIsLeft();
      made++;
    }
    return made;
  }

  public int event(int k, int what) {
    return run.told(k, what);
  }

  public double world(int worker) {
    if (worker < 0 || worker >= MOST_WORKERS || run.workers[worker].story < 0) {
      return 0;
    }
    return run.workers[worker].number;
  }

  public int look(int what) {
    switch (what) {
      case 0:
        return run.underWay ? 1 : 0;
      case 1:
        return text.length;
      case 2:
        return cases.count;
      case 3:
        return definitionCount;
      case 4:
        return hookCount;
      case 5:
        return reading.dialect;
      case 6:
        return run.eventCount;
      case 7:
        return reading.errors;
      default:
        return -1;
    }
  }

  private int fittingCount() {
    int fitting = 0;
    for (int i = 0; i < definitionCount; i++) {
      if (definitions[i].fits(cases.stepText)) {
        fitting++;
      }
    }
    return fitting;
  }

  /** The definition that fits the step's text alone; NONE_FITS or SEVERAL_FIT if there is none such. */
  private int boundDefinition() {
    int found = NONE_FITS;
    for (int i = 0; i < definitionCount; i++) {
      if (definitions[i].fits(cases.stepText)) {
        if (found >= 0) {
          return SEVERAL_FIT;
        }
        found = i;
      }
    }
    return found;
  }

  private void move(Worker worker) {
    if (worker.story < 0) {
      run.takeCase(worker);
      return;
    }
    Case one = cases.all[worker.story];
    if (worker.stage == Worker.BEFORE) {
      int hook = nextHook(true, worker.next, one.tags);
      if (hook >= 0) {
        doHook(worker, hook);
        worker.next = hook + 1;
        return;
      }
      worker.enter(Worker.STEPS, 0);
    }
    if (worker.stage == Worker.STEPS) {
      if (worker.next < cases.stepCount(one)) {
        doStep(worker, one);
        worker.next++;
        return;
      }
      worker.enter(Worker.AFTER, hookCount - 1);
    }
    int hook = nextHook(false, worker.next, one.tags);
    if (hook >= 0) {
      doHook(worker, hook);
      worker.next = hook - 1;
      return;
    }
    one.status = worker.worst;
    run.finishCase(worker);
  }

  /** The next hook from a number on, up for BEFORE and down for AFTER; -1 if there is none. */
  private int nextHook(boolean before, int from, int tags) {
    int way = before ? 1 : -1;
    for (int i = from; i >= 0 && i < hookCount; i += way) {
      if (hookBefore[i] == before && hookTags[i].holds(tags)) {
        return i;
      }
    }
    return -1;
  }

  private void doHook(Worker worker, int hook) {
    int status = SKIPPED;
    if (worker.worst == PASSED || !hookBefore[hook]) {
      status = scripts.perform(hookScripts[hook], worker, null, cases);
    }
    worker.note(status);
    run.tell(HOOK_DONE, worker.story, hook, status);
  }

  private void doStep(Worker worker, Case one) {
    cases.fillStep(one, worker.next);
    int bound = boundDefinition();
    int status = SKIPPED;
    if (bound < 0) {
      status = bound == NONE_FITS ? UNDEFINED : AMBIGUOUS;
    } else if (worker.worst == PASSED) {
      definitions[bound].placeArguments(cases.stepText);
      status = scripts.perform(definitionScripts[bound], worker, definitions[bound], cases);
    }
    worker.note(status);
    run.tell(STEP_DONE, worker.story, worker.next, status);
  }

  /** A row of characters; what is added behind its limit is cut off. */
  private static final class Letters {
    final char[] chars;
    int length;

    Letters(int limit) {
      chars = new char[limit];
    }

    void add(char one) {
      if (length < chars.length) {
        chars[length] = one;
        length++;
      }
    }

    int at(int i) {
      return i >= 0 && i < length ? chars[i] : -1;
    }

    void addPart(Letters source, int from, int count) {
      for (int i = from; i < from + count && length < chars.length; i++) {
        chars[length] = source.chars[i];
        length++;
      }
    }

    /** How many digits follow one another from a place on, looking at no more than so many. */
    int digits(int from, int most) {
      int found = 0;
      while (found < most && from + found < length && chars[from + found] >= '0' && chars[from + found] <= '9') {
        found++;
      }
      return found;
    }

    /** How many characters follow one another from a place on before a certain one, or the end, comes. */
    int before(char one, int from) {
      int found = 0;
      while (from + found < length && chars[from + found] != one) {
        found++;
      }
      return found;
    }

    /** Whether all the characters are perhaps - and 1 to 9 digits. */
    boolean isWholeNumber() {
      int sign = at(0) == '-' ? 1 : 0;
      int found = digits(sign, 9);
      return found > 0 && sign + found == length;
    }

    /** The digits between two places as one number, with its sign; a point counts for nothing. */
    int wholeNumber(int from, int to) {
      int told = 0;
      for (int i = from; i < to; i++) {
        int one = at(i);
        if (one >= '0' && one <= '9') {
          told = told * 10 + (one - '0');
        }
      }
      return at(from) == '-' ? -told : told;
    }
  }

  /** A ROW: where its cells begin in the text that was read, and how long they are. */
  private static final class Row {
    static final int MOST_CELLS = 4;
    final int[] starts;
    final int[] lengths;
    int width;
    int line;

    Row() {
      starts = new int[MOST_CELLS];
      lengths = new int[MOST_CELLS];
    }
  }

  /**
   * A FEATURE, RULE or SCENARIO (first and count tell its STEPS; a FEATURE's and a RULE's are those of
   * its BACKGROUND), or a STEP or EXAMPLES (first and count tell its ROWS).
   */
  private static final class Part {
    int line;
    int tags;
    int first;
    int count;
    int start;
    int length;
    int section;
    int firstExamples;
    int examples;

    void begin(int newLine, int newTags, int newFirst) {
      line = newLine;
      tags = newTags;
      first = newFirst;
      count = 0;
      examples = 0;
    }
  }

  /** The latest reading: its errors, and what its lines told. */
  private static final class Reading {
    static final int MOST_ERRORS = 20;
    static final int MOST_RULES = 4;
    static final int MOST_SCENARIOS = 12;
    static final int MOST_STEPS = 30;
    static final int MOST_ROWS = 40;
    static final int MOST_EXAMPLES = 12;

    static final int EMPTY = 0;
    static final int TAGS = 1;
    static final int ROW = 2;
    static final int FEATURE = 3;
    static final int RULE = 4;
    static final int BACKGROUND = 5;
    static final int SCENARIO = 6;
    static final int EXAMPLES = 7;
    static final int STEP = 8;
    static final int OTHER = 9;

    // In the order of the kinds FEATURE .. EXAMPLES.
    static final String HEADS = "FRBSE";
    static final String OTHER_HEADS = "PQHCX";
    static final String SIGNS = "GWTA*";
    static final String OTHER_SIGNS = "DNZU*";

    static final int TAGGED = 1 << TAGS | 1 << FEATURE | 1 << SCENARIO | 1 << RULE | 1 << EXAMPLES;
    static final int[] MAY_COME = {
      1 << TAGS | 1 << FEATURE,
      1 << TAGS | 1 << BACKGROUND | 1 << SCENARIO | 1 << RULE | 1 << OTHER,
      1 << TAGS | 1 << STEP | 1 << SCENARIO | 1 << RULE | 1 << OTHER,
      1 << TAGS | 1 << STEP | 1 << ROW | 1 << SCENARIO | 1 << RULE,
      1 << TAGS | 1 << STEP | 1 << SCENARIO | 1 << RULE | 1 << EXAMPLES | 1 << OTHER,
      1 << TAGS | 1 << STEP | 1 << ROW | 1 << SCENARIO | 1 << RULE | 1 << EXAMPLES,
      1 << TAGS | 1 << ROW | 1 << SCENARIO | 1 << RULE | 1 << EXAMPLES | 1 << OTHER,
      1 << TAGS | 1 << ROW | 1 << SCENARIO | 1 << RULE | 1 << EXAMPLES,
      1 << TAGS | 1 << BACKGROUND | 1 << SCENARIO | 1 << RULE | 1 << OTHER
    };

    final Letters source;
    int dialect;
    final int[] errorLines;
    final int[] errorNumbers;
    int errors;

    // Section 0 is the FEATURE, the others are the RULES.
    final Part[] sections;
    int rules;
    final Part[] scenarios;
    int scenarioCount;
    final Part[] steps;
    int stepCount;
    final Part[] examples;
    int exampleCount;
    final Row[] rows;
    int rowCount;

    private int state;
    private int waitingTags;
    private Part owner;
    private Part table;

    Reading() {
      source = new Letters(TEXT_LIMIT);
      errorLines = new int[MOST_ERRORS];
      errorNumbers = new int[MOST_ERRORS];
      sections = new Part[MOST_RULES + 1];
      for (int i = 0; i < sections.length; i++) {
        sections[i] = new Part();
      }
      scenarios = new Part[MOST_SCENARIOS];
      for (int i = 0; i < scenarios.length; i++) {
        scenarios[i] = new Part();
      }
      steps = new Part[MOST_STEPS];
      for (int i = 0; i < steps.length; i++) {
        steps[i] = new Part();
      }
      examples = new Part[MOST_EXAMPLES];
      for (int i = 0; i < examples.length; i++) {
        examples[i] = new Part();
      }
      rows = new Row[MOST_ROWS];
      for (int i = 0; i < rows.length; i++) {
        rows[i] = new Row();
      }
      owner = sections[0];
      table = steps[0];
    }

    void take(Letters text) {
      forgetAll();
      System.arraycopy(text.chars, 0, source.chars, 0, text.length);
      source.length = text.length;
      int line = 1;
      int from = 0;
      for (int i = 0; i <= source.length; i++) {
        if (i == source.length || source.chars[i] == '\n') {
          takeLine(line, from, i);
          line++;
          from = i + 1;
        }
      }
      if (state == 0) {
        addError(line, 6);
      }
      if (waitingTags != 0) {
        addError(line, 7);
      }
    }

    private void forgetAll() {
      dialect = 0;
      errors = 0;
      rules = 0;
      scenarioCount = 0;
      stepCount = 0;
      exampleCount = 0;
      rowCount = 0;
      state = 0;
      waitingTags = 0;
    }

    private void addError(int line, int number) {
      if (errors < MOST_ERRORS) {
        errorLines[errors] = line;
        errorNumbers[errors] = number;
        errors++;
      }
    }

    private void takeLine(int line, int lineFrom, int lineTo) {
      int from = skipBlanks(lineFrom, lineTo);
      int to = dropBlanks(from, lineTo);
      if (line == 1 && to - from == 2 && source.at(from) == '#' && source.at(from + 1) == '1') {
        dialect = 1;
      }
      int kind = kindOf(from, to);
      if (kind == EMPTY) {
        return;
      }
      int number = errorOf(kind, from, to);
      if (number != 0) {
        addError(line, number);
      } else if (kind == TAGS) {
        waitingTags |= tagsOf(from, to);
      } else if (kind == ROW) {
        enterRow(line, from, to);
      } else if (kind == STEP) {
        enterStep(line, skipBlanks(from + 1, to), to);
      } else if (kind != OTHER) {
        enterHead(kind, line);
      }
    }

    private int skipBlanks(int from, int to) {
      int at = from;
      while (at < to && source.at(at) == ' ') {
        at++;
      }
      return at;
    }

    private int dropBlanks(int from, int to) {
      int at = to;
      while (at > from && source.at(at - 1) == ' ') {
        at--;
      }
      return at;
    }

    private int kindOf(int from, int to) {
      if (from >= to) {
        return EMPTY;
      }
      char one = source.chars[from];
      if (one == '#') {
        return EMPTY;
      }
      if (one == '@') {
        return TAGS;
      }
      if (one == '|') {
        return ROW;
      }
      int second = from + 1 < to ? source.at(from + 1) : -1;
      int head = (dialect == 1 ? OTHER_HEADS : HEADS).indexOf(one);
      if (second == ':' && head >= 0) {
        return FEATURE + head;
      }
      if (second == ' ' && (dialect == 1 ? OTHER_SIGNS : SIGNS).indexOf(one) >= 0) {
        return STEP;
      }
      return OTHER;
    }

    private int errorOf(int kind, int from, int to) {
      int may = waitingTags == 0 ? MAY_COME[state] : MAY_COME[state] & TAGGED;
      if ((may >> kind & 1) == 0) {
        return 1;
      }
      if (kind == TAGS && tagsOf(from, to) == 0) {
        return 2;
      }
      if (kind == ROW) {
        int width = widthOf(from, to);
        if (width < 1 || width > Row.MOST_CELLS) {
          return 3;
        }
        if (table.count > 0 && rows[table.first].width != width) {
          return 4;
        }
      }
      return hasRoom(kind) ? 0 : 5;
    }

    private boolean hasRoom(int kind) {
      switch (kind) {
        case SCENARIO:
          return scenarioCount < MOST_SCENARIOS;
        case STEP:
          return stepCount < MOST_STEPS;
        case ROW:
          return rowCount < MOST_ROWS;
        case EXAMPLES:
          return exampleCount < MOST_EXAMPLES;
        case RULE:
          return rules < MOST_RULES;
        default:
          return true;
      }
    }

    /** The tags of a line as bits; 0 if a word of it is none. */
    private int tagsOf(int from, int to) {
      int bits = 0;
      for (int i = from; i < to; i++) {
        if (source.at(i) == ' ') {
          continue;
        }
        int letter = i + 1 < to ? source.at(i + 1) : -1;
        boolean ends = i + 2 >= to || source.at(i + 2) == ' ';
        if (source.at(i) != '@' || letter < 'a' || letter > 'p' || !ends) {
          return 0;
        }
        bits |= 1 << (letter - 'a');
        i++;
      }
      return bits;
    }

    /** How many cells a ROW has; 0 if it does not end with another |. */
    private int widthOf(int from, int to) {
      if (source.at(to - 1) != '|') {
        return 0;
      }
      int width = -1;
      for (int i = from; i < to; i++) {
        if (source.at(i) == '|') {
          width++;
        }
      }
      return width;
    }

    private void enterHead(int kind, int line) {
      if (kind == FEATURE) {
        sections[0].begin(line, waitingTags, 0);
        state = 1;
      } else if (kind == RULE) {
        rules++;
        sections[rules].begin(line, waitingTags, 0);
        state = 8;
      } else if (kind == BACKGROUND) {
        owner = sections[rules];
        owner.first = stepCount;
        state = 2;
      } else if (kind == SCENARIO) {
        owner = scenarios[scenarioCount];
        scenarioCount++;
        owner.begin(line, waitingTags, stepCount);
        owner.section = rules;
        owner.firstExamples = exampleCount;
        state = 4;
      } else {
        table = examples[exampleCount];
        exampleCount++;
        table.begin(line, waitingTags, rowCount);
        owner.examples++;
        state = 6;
      }
      waitingTags = 0;
    }

    private void enterStep(int line, int from, int to) {
      table = steps[stepCount];
      stepCount++;
      table.begin(line, 0, rowCount);
      table.start = from;
      table.length = Math.min(to - from, PIECE_LIMIT);
      owner.count++;
      state = state <= 3 ? 3 : 5;
    }

    private void enterRow(int line, int from, int to) {
      Row row = rows[rowCount];
      rowCount++;
      table.count++;
      row.line = line;
      row.width = 0;
      int begin = from + 1;
      for (int i = from + 1; i < to; i++) {
        if (source.at(i) == '|' && row.width < Row.MOST_CELLS) {
          int start = skipBlanks(begin, i);
          row.starts[row.width] = start;
          row.lengths[row.width] = Math.min(dropBlanks(start, i) - start, PIECE_LIMIT);
          row.width++;
          begin = i + 1;
        }
      }
      state = state >= 6 ? 7 : state;
    }
  }

  /** A case: a SCENARIO, with one ROW of EXAMPLES and the ROW of their NAMES, or without. */
  private static final class Case {
    Part scenario;
    Row names;
    Row values;
    int tags;
    int status;
  }

  /** The cases of a reading. What their steps and cells say is put together when it is asked for. */
  private static final class Cases {
    static final int MOST_CASES = 24;

    private final Reading reading;
    final Letters stepText;
    final Letters cellText;
    final Case[] all;
    int count;

    Cases(Reading source) {
      reading = source;
      stepText = new Letters(PIECE_LIMIT);
      cellText = new Letters(PIECE_LIMIT);
      all = new Case[MOST_CASES];
      for (int i = 0; i < all.length; i++) {
        all[i] = new Case();
      }
    }

    void build() {
      count = 0;
      if (reading.errors > 0) {
        return;
      }
      for (int s = 0; s < reading.scenarioCount; s++) {
        Part scenario = reading.scenarios[s];
        if (scenario.examples == 0) {
          add(scenario, 0, null, null);
        }
        for (int e = 0; e < scenario.examples; e++) {
          addExamples(scenario, reading.examples[scenario.firstExamples + e]);
        }
      }
    }

    private void addExamples(Part scenario, Part examples) {
      for (int r = 1; r < examples.count; r++) {
        add(scenario, examples.tags, reading.rows[examples.first], reading.rows[examples.first + r]);
      }
    }

    private void add(Part scenario, int exampleTags, Row names, Row values) {
      if (count >= MOST_CASES) {
        return;
      }
      Case one = all[count];
      one.scenario = scenario;
      one.names = names;
      one.values = values;
      one.tags = reading.sections[0].tags | reading.sections[scenario.section].tags | scenario.tags | exampleTags;
      one.status = -1;
      count++;
    }

    private int backgroundCount(Part scenario) {
      int ofFeature = reading.sections[0].count;
      return scenario.section == 0 ? ofFeature : ofFeature + reading.sections[scenario.section].count;
    }

    int stepCount(Case one) {
      return one.scenario.count == 0 ? 0 : backgroundCount(one.scenario) + one.scenario.count;
    }

    boolean hasStep(int number, int step) {
      return number >= 0 && number < count && step >= 0 && step < stepCount(all[number]);
    }

    Part stepOf(Case one, int step) {
      int ofFeature = reading.sections[0].count;
      int before = backgroundCount(one.scenario);
      if (step < ofFeature) {
        return reading.steps[reading.sections[0].first + step];
      }
      if (step < before) {
        return reading.steps[reading.sections[one.scenario.section].first + step - ofFeature];
      }
      return reading.steps[one.scenario.first + step - before];
    }

    boolean hasCell(Case one, int step, int r, int c) {
      Part table = stepOf(one, step);
      return r >= 0 && r < table.count && c >= 0 && c < reading.rows[table.first + r].width;
    }

    void fillStep(Case one, int step) {
      Part told = stepOf(one, step);
      fill(stepText, one, step, told.start, told.length);
    }

    void fillCell(Case one, int step, int r, int c) {
      Row row = reading.rows[stepOf(one, step).first + r];
      fill(cellText, one, step, row.starts[c], row.lengths[c]);
    }

    private void fill(Letters out, Case one, int step, int start, int length) {
      boolean named = one.names != null && step >= backgroundCount(one.scenario);
      int end = start + length;
      out.length = 0;
      int i = start;
      while (i < end) {
        char letter = reading.source.chars[i];
        int column = named && letter == '<' ? nameAt(one.names, i + 1, end) : -1;
        if (column < 0) {
          out.add(letter);
          i++;
        } else {
          out.addPart(reading.source, one.values.starts[column], one.values.lengths[column]);
          i += one.names.lengths[column] + 2;
        }
      }
    }

    /** The first column whose NAME stands at a place with > directly behind it; -1 if there is none. */
    private int nameAt(Row names, int at, int end) {
      char[] chars = reading.source.chars;
      for (int c = 0; c < names.width; c++) {
        int alike = 0;
        while (alike < names.lengths[c] && at + alike < end && chars[names.starts[c] + alike] == chars[at + alike]) {
          alike++;
        }
        if (alike == names.lengths[c] && at + alike < end && chars[at + alike] == '>') {
          return c;
        }
      }
      return -1;
    }
  }

  /**
   * A definition's expression: a row of elements, each a parameter or a choice of texts in their order.
   * A word is a choice of one text, an optional text one of it and nothing.
   */
  private static final class Expression {
    static final int MOST_PARAMETERS = 6;
    static final int MOST_CHARS = 60;
    static final String PARAMETERS = "idws";
    static final char CHOICE = '/';

    // The chars of choice text n stand from choiceStarts[n] up to choiceStarts[n + 1].
    private final char[] chars;
    private final int[] choiceStarts;
    private int choices;
    // The texts of element e are those from firstChoices[e] up to firstChoices[e + 1].
    private final char[] kinds;
    private final int[] firstChoices;
    private int elements;
    private int parameters;

    // Bit p of open[e]: the elements from e on stand for all that comes from p on.
    // Looking from behind, no way is tried twice, however many ways there are.
    private final long[] open;
    final int[] begins;
    final int[] lengths;
    private final char[] argumentKinds;

    Expression() {
      chars = new char[MOST_CHARS];
      choiceStarts = new int[MOST_CHARS + 2];
      kinds = new char[MOST_CHARS];
      firstChoices = new int[MOST_CHARS + 1];
      open = new long[MOST_CHARS + 1];
      begins = new int[MOST_PARAMETERS];
      lengths = new int[MOST_PARAMETERS];
      argumentKinds = new char[MOST_PARAMETERS];
    }

    /** Becomes the expression of a text; false if it is not well formed. */
    boolean take(Letters text) {
      elements = 0;
      choices = 0;
      choiceStarts[1] = 0;
      parameters = 0;
      if (text.length < 1 || text.length > MOST_CHARS) {
        return false;
      }
      int at = 0;
      for (int n = 0; n < MOST_CHARS && at >= 0 && at < text.length; n++) {
        at = takeElement(text, at);
      }
      return at == text.length;
    }

    /** Takes what stands at a place: the place behind it, or -1 if it is not well formed. */
    private int takeElement(Letters text, int at) {
      char one = text.chars[at];
      if (one == '{') {
        return takeParameter(text, at);
      }
      if (one == '(') {
        return takeOptional(text, at);
      }
      if (one == ' ') {
        addChar(one);
        endChoice();
        endElement(CHOICE);
        return at + 1;
      }
      return takeWord(text, at);
    }

    private int takeParameter(Letters text, int at) {
      int letter = text.at(at + 1);
      boolean known = letter >= 0 && PARAMETERS.indexOf((char) letter) >= 0;
      if (!known || text.at(at + 2) != '}' || parameters >= MOST_PARAMETERS) {
        return -1;
      }
      argumentKinds[parameters] = (char) letter;
      parameters++;
      endElement((char) letter);
      return at + 3;
    }

    private int takeOptional(Letters text, int at) {
      int i = at + 1;
      while (i < text.length && text.at(i) != ')') {
        if (text.at(i) == '\\') {
          i++;
        }
        if (i >= text.length) {
          return -1;
        }
        addChar(text.chars[i]);
        i++;
      }
      if (i >= text.length || choiceLength(choices) == 0) {
        return -1;
      }
      endChoice();
      endChoice();
      endElement(CHOICE);
      return i + 1;
    }

    private int takeWord(Letters text, int at) {
      int i = at;
      while (i < text.length && !endsWord(text.chars[i])) {
        if (text.at(i) == '/') {
          if (choiceLength(choices) == 0) {
            return -1;
          }
          endChoice();
        } else {
          if (text.at(i) == '\\') {
            i++;
          }
          if (i >= text.length) {
            return -1;
          }
          addChar(text.chars[i]);
        }
        i++;
      }
      if (choiceLength(choices) == 0) {
        return -1;
      }
      endChoice();
      endElement(CHOICE);
      return i;
    }

    private boolean endsWord(char one) {
      return one == '{' || one == '}' || one == '(' || one == ')' || one == ' ';
    }

    private void addChar(char one) {
      chars[choiceStarts[choices + 1]] = one;
      choiceStarts[choices + 1]++;
    }

    private void endChoice() {
      choices++;
      choiceStarts[choices + 1] = choiceStarts[choices];
    }

    private void endElement(char kind) {
      kinds[elements] = kind;
      elements++;
      firstChoices[elements] = choices;
    }

    private int choiceLength(int choice) {
      return choiceStarts[choice + 1] - choiceStarts[choice];
    }

    boolean fits(Letters text) {
      open[elements] = 1L << text.length;
      for (int e = elements - 1; e >= 0; e--) {
        open[e] = kinds[e] == CHOICE ? openBeforeChoice(e, text) : openBeforeParameter(e, text);
        if (open[e] == 0) {
          return false;
        }
      }
      return (open[0] & 1L) == 1L;
    }

    private long openBeforeChoice(int e, Letters text) {
      long before = 0;
      for (int c = firstChoices[e]; c < firstChoices[e + 1]; c++) {
        long ways = open[e + 1] >>> choiceLength(c);
        for (int p = 0; p < text.length + 1 && ways >>> p != 0; p++) {
          if ((ways >>> p & 1L) == 1L && standsAt(c, text, p)) {
            before |= 1L << p;
          }
        }
      }
      return before;
    }

    private long openBeforeParameter(int e, Letters text) {
      long before = 0;
      for (int p = 0; p < text.length; p++) {
        if ((endsOf(kinds[e], text, p) & open[e + 1]) != 0) {
          before |= 1L << p;
        }
      }
      return before;
    }

    private boolean standsAt(int choice, Letters text, int at) {
      for (int i = 0; i < choiceLength(choice); i++) {
        if (text.at(at + i) != chars[choiceStarts[choice] + i]) {
          return false;
        }
      }
      return true;
    }

    /** The places, as bits, where a parameter that begins at one can end. */
    private long endsOf(char kind, Letters text, int at) {
      int digits = text.at(at) == '-' ? at + 1 : at;
      switch (kind) {
        case 'i':
          return places(digits + 1, text.digits(digits, 9));
        case 'd':
          int point = digits + text.digits(digits, 6);
          return point > digits && text.at(point) == '.' ? places(point + 2, text.digits(point + 1, 3)) : 0;
        case 'w':
          return places(at + 1, text.before(' ', at));
        default:
          int quote = at + 1 + text.before('"', at + 1);
          return text.at(at) == '"' && text.at(quote) == '"' ? places(quote + 1, 1) : 0;
      }
    }

    private long places(int from, int count) {
      long bits = 0;
      for (int i = 0; i < count; i++) {
        bits |= 1L << (from + i);
      }
      return bits;
    }

    /** Finds the arguments in a text that fits: the first of the ways that are open, from the left. */
    void placeArguments(Letters text) {
      if (!fits(text)) {
        return;
      }
      int at = 0;
      int argument = 0;
      for (int e = 0; e < elements; e++) {
        if (kinds[e] == CHOICE) {
          at = endOfChoice(e, text, at);
        } else {
          int end = last(endsOf(kinds[e], text, at) & open[e + 1]);
          int quote = kinds[e] == 's' ? 1 : 0;
          begins[argument] = at + quote;
          lengths[argument] = end - at - 2 * quote;
          argument++;
          at = end;
        }
      }
    }

    private int endOfChoice(int e, Letters text, int at) {
      for (int c = firstChoices[e]; c < firstChoices[e + 1]; c++) {
        int end = at + choiceLength(c);
        if (end <= text.length && (open[e + 1] >>> end & 1L) == 1L && standsAt(c, text, at)) {
          return end;
        }
      }
      return at;
    }

    private int last(long places) {
      for (int p = PIECE_LIMIT; p > 0; p--) {
        if ((places >>> p & 1L) == 1L) {
          return p;
        }
      }
      return 0;
    }

    boolean hasArgument(int k) {
      return k >= 0 && k < parameters;
    }

    boolean hasNumber(int k) {
      return hasArgument(k) && (argumentKinds[k] == 'i' || argumentKinds[k] == 'd');
    }

    double number(Letters text, int k) {
      int end = begins[k] + lengths[k];
      double told = text.wholeNumber(begins[k], end);
      double divisor = 1;
      if (argumentKinds[k] == 'd') {
        for (int i = end - 1; i > begins[k] && text.at(i) != '.'; i--) {
          divisor = divisor * 10;
        }
      }
      return told / divisor;
    }
  }

  /** A tag expression, without its blanks. */
  private static final class TagExpression {
    static final int MOST_CHARS = 40;

    private final char[] signs;
    private int count;
    private int at;
    private boolean formed;

    TagExpression() {
      signs = new char[MOST_CHARS];
    }

    /** Becomes the tag expression of a text; false if it is none. */
    boolean take(Letters text) {
      count = 0;
      if (text.length > MOST_CHARS) {
        return false;
      }
      for (int i = 0; i < text.length; i++) {
        if (text.chars[i] != ' ') {
          signs[count] = text.chars[i];
          count++;
        }
      }
      holds(0);
      return count == 0 || formed && at == count;
    }

    boolean holds(int tags) {
      at = 0;
      formed = true;
      return count == 0 || anyOf(tags, 0);
    }

    // Both sides are always walked through, so that the place behind them is known.
    private boolean anyOf(int tags, int depth) {
      boolean any = allOf(tags, depth);
      while (at < count && signs[at] == '|') {
        at++;
        boolean next = allOf(tags, depth);
        any = any || next;
      }
      return any;
    }

    private boolean allOf(int tags, int depth) {
      boolean all = one(tags, depth);
      while (at < count && signs[at] == '&') {
        at++;
        boolean next = one(tags, depth);
        all = all && next;
      }
      return all;
    }

    private boolean one(int tags, int depth) {
      boolean wanted = true;
      while (at < count && signs[at] == '!') {
        at++;
        wanted = !wanted;
      }
      if (at >= count || depth >= MOST_CHARS) {
        formed = false;
        return false;
      }
      char sign = signs[at];
      at++;
      if (sign == '(') {
        boolean inner = anyOf(tags, depth + 1);
        formed = formed && at < count && signs[at] == ')';
        at++;
        return inner == wanted;
      }
      formed = formed && sign >= 'a' && sign <= 'p';
      boolean there = formed && (tags >> (sign - 'a') & 1) == 1;
      return there == wanted;
    }
  }

  /** The scripts, and how their commands are done. */
  private static final class Scripts {
    static final int MOST_SCRIPTS = 8;
    static final int MOST_COMMANDS = 4;
    static final int LAST_COMMAND = 8;
    static final int MOST_UNITS = 50;
    static final int LIMIT = 1000000000;

    private final int[] commands;
    private final int[] amounts;
    private final int[] counts;

    Scripts() {
      commands = new int[MOST_SCRIPTS * MOST_COMMANDS];
      amounts = new int[MOST_SCRIPTS * MOST_COMMANDS];
      counts = new int[MOST_SCRIPTS];
    }

    boolean has(int script) {
      return script >= 0 && script < MOST_SCRIPTS;
    }

    boolean append(int script, int command, int k) {
      if (!has(script) || command < 0 || command > LAST_COMMAND || counts[script] >= MOST_COMMANDS) {
        return false;
      }
      int place = script * MOST_COMMANDS + counts[script];
      commands[place] = command;
      amounts[place] = k;
      counts[script]++;
      return true;
    }

    /** Does a script for a step with its expression, or for a hook (null), and answers the STATUS. */
    int perform(int script, Worker worker, Expression bound, Cases cases) {
      worker.waited = 0;
      int status = PASSED;
      for (int i = 0; i < counts[script] && status == PASSED; i++) {
        int command = commands[script * MOST_COMMANDS + i];
        int k = amounts[script * MOST_COMMANDS + i];
        if (command <= 3) {
          status = reckon(command, k, worker, bound, cases.stepText);
        } else if (command == 4) {
          status = addLength(k, worker, bound);
        } else if (command == 5) {
          addTable(worker, bound, cases);
        } else if (command == 8) {
          status = waitUnits(k, worker);
        } else {
          status = command == 6 ? FAILED : PENDING;
        }
        // Looked at behind each command, so also in an AFTER hook whose case left the limits before.
        if (status == PASSED && !isWithin(worker.number)) {
          status = FAILED;
        }
      }
      worker.waitedInRun += worker.waited;
      return status;
    }

    private int reckon(int command, int k, Worker worker, Expression bound, Letters text) {
      if (bound == null || !bound.hasNumber(k)) {
        return FAILED;
      }
      double told = bound.number(text, k);
      if (command == 3) {
        return worker.number == told ? PASSED : FAILED;
      }
      worker.number = command == 0 ? told : command == 1 ? worker.number + told : worker.number * told;
      return PASSED;
    }

    private int addLength(int k, Worker worker, Expression bound) {
      if (bound == null || !bound.hasArgument(k)) {
        return FAILED;
      }
      worker.number = worker.number + bound.lengths[k];
      return PASSED;
    }

    private void addTable(Worker worker, Expression bound, Cases cases) {
      Case one = cases.all[worker.story];
      int rows = bound == null ? 0 : cases.stepOf(one, worker.next).count;
      for (int r = 0; r < rows; r++) {
        for (int c = 0; c < Row.MOST_CELLS && isWithin(worker.number); c++) {
          if (cases.hasCell(one, worker.next, r, c)) {
            cases.fillCell(one, worker.next, r, c);
            addCell(worker, cases.cellText);
          }
        }
      }
    }

    // Another cell is not added as 0, for that would make a NUMBER of -0.0 to 0.0.
    private void addCell(Worker worker, Letters cell) {
      if (cell.isWholeNumber()) {
        worker.number = worker.number + cell.wholeNumber(0, cell.length);
      }
    }

    private int waitUnits(int k, Worker worker) {
      int wanted = Math.max(k, 0);
      int granted = Math.min(wanted, MOST_UNITS - worker.waited);
      worker.waited += granted;
      return granted < wanted ? FAILED : PASSED;
    }

    private boolean isWithin(double number) {
      return number >= -LIMIT && number <= LIMIT;
    }
  }

  /** A worker, where it stands in its case, and the case's world. */
  private static final class Worker {
    static final int BEFORE = 0;
    static final int STEPS = 1;
    static final int AFTER = 2;

    final int name;
    int story;
    int stage;
    int next;
    int worst;
    double number;
    int waited;
    int waitedInRun;

    Worker(int number) {
      name = number;
      story = -1;
    }

    void begin(int newStory) {
      story = newStory;
      stage = BEFORE;
      next = 0;
      worst = PASSED;
      number = 0;
    }

    void enter(int newStage, int first) {
      stage = newStage;
      next = first;
    }

    void note(int status) {
      worst = Math.max(worst, status);
    }
  }

  /** Whose turn it is, which cases are still to be taken, and the events. */
  private static final class Run {
    static final int KEPT = 64;
    static final int WHATS = 4;

    final Worker[] workers;
    private int workerCount;
    private int turn;
    private final int[] queue;
    int queued;
    private int taken;
    private int over;
    private int worst;
    boolean underWay;
    private final int[] events;
    int eventCount;

    Run() {
      workers = new Worker[MOST_WORKERS];
      for (int i = 0; i < workers.length; i++) {
        workers[i] = new Worker(i);
      }
      queue = new int[Cases.MOST_CASES];
      events = new int[KEPT * WHATS];
    }

    void clear(int newWorkers) {
      workerCount = newWorkers;
      turn = 0;
      queued = 0;
      taken = 0;
      over = 0;
      worst = PASSED;
      underWay = true;
      for (int i = 0; i < workers.length; i++) {
        workers[i].waitedInRun = 0;
      }
    }

    void enqueue(int story) {
      if (queued < queue.length) {
        queue[queued] = story;
        queued++;
      }
    }

    /** The number of the worker that makes the next move. */
    int takeTurn() {
      for (int i = 0; i < workerCount; i++) {
        int found = turn;
        turn = turn + 1 < workerCount ? turn + 1 : 0;
        if (workers[found].story >= 0 || taken < queued) {
          return found;
        }
      }
      return turn;
    }

    void takeCase(Worker worker) {
      if (taken < queued) {
        worker.begin(queue[taken]);
        taken++;
        tell(CASE_BEGINS, worker.story, worker.name, 0);
      }
    }

    void finishCase(Worker worker) {
      tell(CASE_OVER, worker.story, worker.worst, worker.name);
      worst = Math.max(worst, worker.worst);
      worker.story = -1;
      over++;
    }

    void endIfNothingIsLeft() {
      if (over < queued) {
        return;
      }
      int waited = 0;
      for (int i = 0; i < workers.length; i++) {
        waited += workers[i].waitedInRun;
      }
      underWay = false;
      tell(RUN_OVER, worst, waited, 0);
    }

    void tell(int kind, int first, int second, int third) {
      int place = eventCount % KEPT * WHATS;
      events[place] = kind;
      events[place + 1] = first;
      events[place + 2] = second;
      events[place + 3] = third;
      eventCount++;
    }

    int told(int k, int what) {
      if (k < 0 || k >= KEPT || k >= eventCount || what < 0 || what >= WHATS) {
        return -1;
      }
      return events[(eventCount - 1 - k) % KEPT * WHATS + what];
    }
  }
}
