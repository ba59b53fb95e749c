import java.util.ArrayList;

/**
 * A tuner of a fretted clavichord.
 *
 * <p>The tape is scanned into tokens, the tokens are read into a draft of a clavichord, and the
 * draft takes the place of the one told before only if it has no error.
 */
public final class ClaviTuner {
  private static final int MAX_TAPE = 2000;
  private static final int FED_BYTES = 20;
  private static final int MAX_TOKENS = 400;
  private static final int MAX_WORD = 10;
  private static final int MAX_DIGITS = 6;
  private static final int MAX_DEPTH = 8;

  private static final int MAX_COURSES = 8;
  private static final int MAX_KEYS = 20;
  private static final int MAX_TUNES = 24;
  private static final int MAX_PITCH = 4800;
  private static final int MAX_SLACK = 9;
  private static final int MAX_HOLDS = 6000;
  private static final int MAX_AT = 600;

  private static final int NOT_A_LIST = 1;
  private static final int TOLD_TWICE = 2;
  private static final int NOT_TOLD = 3;
  private static final int TOO_MANY = 4;
  private static final int OUT_OF_RANGE = 5;
  private static final int SAME_COURSE = 6;

  private static final int[] PURE = {702, 498, 386, 1200};
  private static final int FIFTH_CENTS = 702;
  private static final int THIRD_CENTS = 386;
  private static final int OCTAVE_CENTS = 1200;
  private static final int MAX_SOUR = 60;
  private static final int SILENT = -1;
  private static final int NOBODY = -1;

  private static final int[] SPEEDS = {
    1000, 1059, 1122, 1189, 1260, 1335, 1414, 1498, 1587, 1682, 1782, 1888, 2000
  };

  private static final int MAX_LESS = 100;
  private static final int MAX_TEMPER = 12;
  private static final int AS_TOLD = -1;
  private static final int MAX_TURN = 600;
  private static final int MAX_DAMP = 5;
  private static final int MAX_DAYS = 120;
  private static final int MAX_LASTS = 200;
  private static final int MAX_CENTS = 200;

  private static final int COUNTS = 11;
  private static final int COURSE_FACTS = 5;
  private static final int KEY_FACTS = 7;
  private static final int TUNE_FACTS = 7;

  private final Tape tape = new Tape();
  private final Reader reader = new Reader();
  private int errorAt = -1;
  private Clavichord told = new Clavichord();
  private int day = 0;
  private int damp = 0;

  public ClaviTuner() {}

  // ---- the language

  public int feed(int a, int b, int c, int d, int e) throws IllegalStateException {
    if (tape.length + FED_BYTES > MAX_TAPE) {
      throw new IllegalStateException("the tape would be too long");
    }
    tape.append(a);
    tape.append(b);
    tape.append(c);
    tape.append(d);
    tape.append(e);
    return tape.length;
  }

  public int trim(int n) throws IllegalArgumentException {
    if (n < 0 || n > tape.length) {
      throw new IllegalArgumentException("the tape has not so many bytes");
    }
    tape.length = n;
    return n;
  }

  public int teach() {
    int error = reader.read(tape);
    tape.length = 0;
    errorAt = reader.firstErrorAt;
    if (error == 0) {
      told = reader.exchange(told);
    }
    return error;
  }

  public int errorAt() {
    return errorAt;
  }

  public int count(int what) throws IndexOutOfBoundsException {
    switch (what) {
      case 0:
        return day;
      case 1:
        return damp;
      case 2:
        return told.courses.size();
      case 3:
        return told.brokenCourses();
      case 4:
        return told.keyboard.keys.size();
      case 5:
        return told.tunes.size();
      case 6:
        return told.keyboard.keysWith(FIFTH_CENTS);
      case 7:
        return told.keyboard.keysWith(THIRD_CENTS);
      case 8:
        return told.keyboard.allSour(FIFTH_CENTS);
      case 9:
        return told.keyboard.allSour(THIRD_CENTS);
      case 10:
        return tape.length;
      default:
        throw new IndexOutOfBoundsException("there is no such count");
    }
  }

  // ---- courses, keys, tunes

  public int course(int course, int what) throws IndexOutOfBoundsException {
    Course asked = existingCourse(course);
    switch (what) {
      case 0:
        return asked.pitch;
      case 1:
        return asked.slack;
      case 2:
        return asked.holds;
      case 3:
        return asked.broken ? 1 : 0;
      case 4:
        return asked.keysOn;
      default:
        throw new IndexOutOfBoundsException("a course has no such fact");
    }
  }

  public int key(int key, int what) throws IndexOutOfBoundsException {
    Key asked = existingKey(key);
    switch (what) {
      case 0:
        return asked.course.number;
      case 1:
        return asked.at;
      case 2:
        return asked.soundingPitch();
      case 3:
        return numberOf(told.keyboard.partner(asked, FIFTH_CENTS));
      case 4:
        return told.keyboard.sourness(asked, FIFTH_CENTS);
      case 5:
        return numberOf(told.keyboard.partner(asked, THIRD_CENTS));
      case 6:
        return told.keyboard.sourness(asked, THIRD_CENTS);
      default:
        throw new IndexOutOfBoundsException("a key has no such fact");
    }
  }

  public int tune(int tune, int what) throws IndexOutOfBoundsException {
    Tune asked = existingTune(tune);
    switch (what) {
      case 0:
        return asked.key.number;
      case 1:
        return asked.from.number;
      case 2:
        return asked.interval;
      case 3:
        return asked.up ? 1 : 0;
      case 4:
        return told.lessOf(asked, day);
      case 5:
        return told.mayCarry(asked, day) ? 1 : 0;
      case 6:
        return asked.timesCarried;
      default:
        throw new IndexOutOfBoundsException("a tune has no such fact");
    }
  }

  // ---- by hand

  public boolean carry(int tune) throws IndexOutOfBoundsException {
    return carryOut(existingTune(tune));
  }

  private boolean carryOut(Tune tune) {
    if (!told.mayCarry(tune, day)) {
      return false;
    }
    tune.retune(told.lessOf(tune, day));
    tune.timesCarried++;
    return true;
  }

  public int run() {
    int carried = 0;
    for (int i = 0; i < told.tunes.size(); i++) {
      if (carryOut(told.tunes.get(i))) {
        carried++;
      }
    }
    return carried;
  }

  public int turn(int course, int cents)
      throws IndexOutOfBoundsException, IllegalArgumentException, IllegalStateException {
    Course turned = existingCourse(course);
    if (cents < -MAX_TURN || cents > MAX_TURN) {
      throw new IllegalArgumentException("the pins are not turned so far");
    }
    if (turned.broken) {
      throw new IllegalStateException("the course is broken");
    }
    turned.moveTo(turned.pitch + cents);
    return turned.pitch;
  }

  public int string(int course, int pitch)
      throws IndexOutOfBoundsException, IllegalArgumentException {
    Course strung = existingCourse(course);
    if (pitch < 0 || pitch > strung.holds) {
      throw new IllegalArgumentException("the course does not hold this pitch");
    }
    int before = strung.pitch;
    strung.pitch = pitch;
    strung.broken = false;
    return before;
  }

  public int setDamp(int damp) throws IllegalArgumentException {
    if (damp < -MAX_DAMP || damp > MAX_DAMP) {
      throw new IllegalArgumentException("there is no such damp");
    }
    int before = this.damp;
    this.damp = damp;
    return before;
  }

  public int pass(int days) throws IllegalArgumentException {
    if (days < 1 || days > MAX_DAYS) {
      throw new IllegalArgumentException("not so many days go by");
    }
    int brokenBefore = told.brokenCourses();
    for (int i = 0; i < days; i++) {
      told.age(damp);
      day++;
    }
    return told.brokenCourses() - brokenBefore;
  }

  // ---- what sounds

  public int off(int a, int b, int interval) throws IndexOutOfBoundsException {
    Key first = existingKey(a);
    Key second = existingKey(b);
    return first.offWith(second, centsOf(existingInterval(interval)));
  }

  public int beats(int a, int b, int interval) throws IndexOutOfBoundsException {
    Key first = existingKey(a);
    Key second = existingKey(b);
    return first.beatsWith(second, centsOf(existingInterval(interval)));
  }

  public int wolf() {
    return numberOf(told.keyboard.sourestFifth());
  }

  public int triad(int key) throws IndexOutOfBoundsException {
    return told.keyboard.triadOf(existingKey(key));
  }

  public int sweetest() {
    return numberOf(told.keyboard.sweetestTriad());
  }

  // ---- what would be

  public int would(int what) throws IndexOutOfBoundsException {
    if (what < 0 || what > 4) {
      throw new IndexOutOfBoundsException("nothing of the kind would be");
    }
    told.keep();
    int carried = told.carryAllBut(null, AS_TOLD, day);
    int answer = what == 4 ? carried : soundingFact(what);
    told.restore();
    return answer;
  }

  private int soundingFact(int what) {
    switch (what) {
      case 0:
        return told.keyboard.allSour(FIFTH_CENTS);
      case 1:
        return told.keyboard.allSour(THIRD_CENTS);
      case 2:
        return numberOf(told.keyboard.sourestFifth());
      default:
        return told.brokenCourses();
    }
  }

  public int without(int tune) throws IndexOutOfBoundsException {
    return sourBehind(existingTune(tune), AS_TOLD);
  }

  public int temper() {
    int best = 0;
    int least = sourBehind(null, 0);
    for (int cents = 1; cents <= MAX_TEMPER; cents++) {
      int sour = sourBehind(null, cents);
      if (sour < least) {
        least = sour;
        best = cents;
      }
    }
    return best;
  }

  private int sourBehind(Tune leftOut, int tempered) {
    told.keep();
    told.carryAllBut(leftOut, tempered, day);
    int sour = told.keyboard.allSour(FIFTH_CENTS) + told.keyboard.allSour(THIRD_CENTS);
    told.restore();
    return sour;
  }

  public int lasts(int a, int b, int interval, int cents)
      throws IndexOutOfBoundsException, IllegalArgumentException {
    Key first = existingKey(a);
    Key second = existingKey(b);
    int pure = centsOf(existingInterval(interval));
    if (cents < 0 || cents > MAX_CENTS) {
      throw new IllegalArgumentException("there is no such number of cents");
    }
    told.keep();
    int days = daysUntilSpoilt(first, second, pure, cents);
    told.restore();
    return days;
  }

  private int daysUntilSpoilt(Key first, Key second, int pure, int cents) {
    for (int days = 0; days <= MAX_LASTS; days++) {
      boolean silent = first.isSilent() || second.isSilent();
      if (silent || Math.abs(first.offWith(second, pure)) > cents) {
        return days;
      }
      told.age(damp);
    }
    return -1;
  }

  public double mean() {
    return told.keyboard.meanPitch();
  }

  public long digest() {
    long d = 809;
    for (int what = 0; what < COUNTS; what++) {
      d = d * 31 + count(what);
    }
    for (int i = 0; i < told.courses.size() * COURSE_FACTS; i++) {
      d = d * 31 + course(i / COURSE_FACTS, i % COURSE_FACTS);
    }
    for (int i = 0; i < told.keyboard.keys.size() * KEY_FACTS; i++) {
      d = d * 31 + key(i / KEY_FACTS, i % KEY_FACTS);
    }
    for (int i = 0; i < told.tunes.size() * TUNE_FACTS; i++) {
      d = d * 31 + tune(i / TUNE_FACTS, i % TUNE_FACTS);
    }
    d = d * 31 + wolf();
    return d * 31 + sweetest();
  }

  private Course existingCourse(int number) {
    if (number < 0 || number >= told.courses.size()) {
      throw new IndexOutOfBoundsException("there is no such course");
    }
    return told.courses.get(number);
  }

  private Key existingKey(int number) {
    if (number < 0 || number >= told.keyboard.keys.size()) {
      throw new IndexOutOfBoundsException("there is no such key");
    }
    return told.keyboard.keys.get(number);
  }

  private Tune existingTune(int number) {
    if (number < 0 || number >= told.tunes.size()) {
      throw new IndexOutOfBoundsException("there is no such tune");
    }
    return told.tunes.get(number);
  }

  private static int existingInterval(int interval) {
    if (interval < 0 || interval >= PURE.length) {
      throw new IndexOutOfBoundsException("there is no such interval");
    }
    return interval;
  }

  private static int centsOf(int interval) {
    return interval >= 0 && interval < PURE.length ? PURE[interval] : 0;
  }

  private static int numberOf(Key key) {
    return key == null ? NOBODY : key.number;
  }

  /** What a token can be; those of a sum or a test are what a step of it does, too. */
  private enum Kind {
    COURSE("course"),
    PITCH("pitch"),
    SLACK("slack"),
    HOLDS("holds"),
    KEY("key"),
    ON("on"),
    AT("at"),
    TUNE("tune"),
    FROM("from"),
    FIFTH("fifth"),
    FOURTH("fourth"),
    THIRD("third"),
    OCTAVE("octave"),
    UP("up"),
    DOWN("down"),
    LESS("less"),
    WHEN("when"),
    DAY("day"),
    GAP("gap"),
    BROKEN("broken"),
    NOT("not"),
    AND("and"),
    OR("or"),
    MIN("min"),
    MAX("max"),
    OPEN("("),
    CLOSE(")"),
    OPEN_SQUARE("["),
    CLOSE_SQUARE("]"),
    SEMICOLON(";"),
    COMMA(","),
    PLUS("+"),
    MINUS("-"),
    TIMES("*"),
    OVER("/"),
    BELOW("<"),
    ABOVE(">"),
    SAME("="),
    AT_MOST("<="),
    AT_LEAST(">="),
    NAME(""),
    NUMBER(""),
    END(""),
    NONE(""),
    NEGATE("");

    private static final Kind[] ALL = values();

    final String spelling;

    Kind(String spelling) {
      this.spelling = spelling;
    }

    static Kind spelled(String text) {
      for (int i = 0; i < ALL.length; i++) {
        if (ALL[i].spelling.equals(text)) {
          return ALL[i];
        }
      }
      return NONE;
    }
  }

  /** A token of the tape; the last one of a row is END, or NONE where no token is allowed. */
  private static final class Token {
    final Kind kind;
    final int start;
    final String text;
    final int number;

    Token(Kind kind, int start, String text, int number) {
      this.kind = kind;
      this.start = start;
      this.text = text;
      this.number = number;
    }
  }

  /** The row of bytes, which cuts itself into tokens. */
  private static final class Tape {
    private final char[] bytes = new char[MAX_TAPE];
    private final StringBuilder taken = new StringBuilder();
    int length = 0;

    void append(int fourBytes) {
      for (int shift = 24; shift >= 0; shift -= 8) {
        if (length >= 0 && length < bytes.length) {
          bytes[length] = (char) ((fourBytes >>> shift) & 255);
          length++;
        }
      }
    }

    void cutInto(ArrayList<Token> tokens) {
      tokens.clear();
      int at = 0;
      for (int i = 0; i <= MAX_TOKENS; i++) {
        at = behindBlanks(at);
        Token token = tokenAt(at, i == MAX_TOKENS);
        tokens.add(token);
        if (token.kind == Kind.END || token.kind == Kind.NONE) {
          return;
        }
        at += token.text.length();
      }
    }

    private int behindBlanks(int start) {
      int at = start;
      while (at < length && (byteAt(at) == ' ' || byteAt(at) == '\n')) {
        at++;
      }
      return at;
    }

    private Token tokenAt(int start, boolean tooMany) {
      if (start >= length) {
        return new Token(Kind.END, length, "", 0);
      }
      if (tooMany) {
        return new Token(Kind.NONE, start, "", 0);
      }
      char first = byteAt(start);
      if (isLetter(first)) {
        return wordAt(start);
      }
      return isDigit(first) ? numberAt(start) : symbolAt(start);
    }

    private Token wordAt(int start) {
      taken.setLength(0);
      // One byte more than is allowed is enough to tell that the word is too long.
      for (int at = start; at <= start + MAX_WORD; at++) {
        char c = byteAt(at);
        if (!isLetter(c) && !isDigit(c)) {
          break;
        }
        taken.append(c);
      }
      String text = taken.toString();
      if (text.length() > MAX_WORD) {
        return new Token(Kind.NONE, start, "", 0);
      }
      Kind keyword = Kind.spelled(text);
      return new Token(keyword == Kind.NONE ? Kind.NAME : keyword, start, text, 0);
    }

    private Token numberAt(int start) {
      taken.setLength(0);
      int number = 0;
      // One digit more than is allowed is enough to tell that the number is too long.
      for (int at = start; at <= start + MAX_DIGITS && isDigit(byteAt(at)); at++) {
        taken.append(byteAt(at));
        number = number * 10 + (byteAt(at) - '0');
      }
      if (taken.length() > MAX_DIGITS) {
        return new Token(Kind.NONE, start, "", 0);
      }
      return new Token(Kind.NUMBER, start, taken.toString(), number);
    }

    private Token symbolAt(int start) {
      taken.setLength(0);
      taken.append(byteAt(start));
      String single = taken.toString();
      if (byteAt(start + 1) == '=') {
        String pair = taken.append('=').toString();
        Kind longest = Kind.spelled(pair);
        if (longest != Kind.NONE) {
          return new Token(longest, start, pair, 0);
        }
      }
      return new Token(Kind.spelled(single), start, single, 0);
    }

    /** The byte there; behind the tape one with which no token begins or goes on. */
    private char byteAt(int at) {
      return at >= 0 && at < length && at < bytes.length ? bytes[at] : (char) 0;
    }

    private static boolean isLetter(char c) {
      return c >= 'a' && c <= 'z';
    }

    private static boolean isDigit(char c) {
      return c >= '0' && c <= '9';
    }
  }

  /**
   * Reads the tokens as a list into a draft. Names and numbers are looked at on the way, as they
   * come from left to right, but what is wrong with them counts only if the tokens are a list.
   */
  private static final class Reader {
    private final ArrayList<Token> tokens = new ArrayList<Token>();
    private Clavichord draft = new Clavichord();
    private Token now = new Token(Kind.END, 0, "", 0);
    private int place = 0;
    private boolean failed = false;
    private int firstError = 0;
    int firstErrorAt = -1;

    /** Gives the draft away; the other clavichord is written over by the next reading. */
    Clavichord exchange(Clavichord other) {
      Clavichord read = draft;
      draft = other;
      return read;
    }

    int read(Tape tape) {
      tape.cutInto(tokens);
      draft.clear();
      failed = false;
      firstError = 0;
      firstErrorAt = -1;
      goTo(0);
      for (int i = 0; i <= MAX_TOKENS && !failed && !is(Kind.END); i++) {
        if (is(Kind.COURSE)) {
          courseLine();
        } else if (is(Kind.KEY)) {
          keyLine();
        } else {
          tuneLine();
        }
        take(Kind.SEMICOLON);
      }
      return firstError;
    }

    private void courseLine() {
      take(Kind.COURSE);
      Token name = take(Kind.NAME);
      if (draft.courseNamed(name.text) != null) {
        note(TOLD_TWICE, name);
      }
      if (draft.courses.size() >= MAX_COURSES) {
        note(TOO_MANY, name);
      }
      take(Kind.PITCH);
      int pitch = numberUpTo(MAX_PITCH);
      take(Kind.SLACK);
      int slack = numberUpTo(MAX_SLACK);
      take(Kind.HOLDS);
      int holds = numberUpTo(MAX_HOLDS);
      if (firstError == 0) {
        draft.courses.add(new Course(draft.courses.size(), name.text, pitch, slack, holds));
      }
    }

    private void keyLine() {
      take(Kind.KEY);
      Token name = take(Kind.NAME);
      if (draft.keyboard.keyNamed(name.text) != null) {
        note(TOLD_TWICE, name);
      }
      if (draft.keyboard.keys.size() >= MAX_KEYS) {
        note(TOO_MANY, name);
      }
      take(Kind.ON);
      Course course = toldCourse(take(Kind.NAME));
      take(Kind.AT);
      int at = numberUpTo(MAX_AT);
      if (firstError == 0 && course != null) {
        draft.keyboard.keys.add(new Key(draft.keyboard.keys.size(), name.text, course, at));
        course.keysOn++;
      }
    }

    private void tuneLine() {
      Token tune = take(Kind.TUNE);
      if (draft.tunes.size() >= MAX_TUNES) {
        note(TOO_MANY, tune);
      }
      Key key = toldKey(take(Kind.NAME));
      take(Kind.FROM);
      Token fromName = take(Kind.NAME);
      Key from = toldKey(fromName);
      if (key != null && from != null && key.course.number == from.course.number) {
        note(SAME_COURSE, fromName);
      }
      int interval = toldInterval();
      boolean up = is(Kind.UP);
      take(up ? Kind.UP : Kind.DOWN);
      ArrayList<Step> less = new ArrayList<Step>();
      if (accept(Kind.LESS)) {
        sum(less, 0);
      }
      ArrayList<Step> when = new ArrayList<Step>();
      if (accept(Kind.WHEN)) {
        test(when, 0);
      }
      if (firstError == 0 && key != null && from != null) {
        draft.tunes.add(new Tune(key, from, interval, up, less, when));
      }
    }

    private int toldInterval() {
      if (accept(Kind.FIFTH)) {
        return 0;
      }
      if (accept(Kind.FOURTH)) {
        return 1;
      }
      if (accept(Kind.THIRD)) {
        return 2;
      }
      take(Kind.OCTAVE);
      return 3;
    }

    private void test(ArrayList<Step> out, int depth) {
      both(out, depth);
      for (int i = 0; i < MAX_TOKENS && accept(Kind.OR); i++) {
        both(out, depth);
        out.add(new Step(Kind.OR, 0, 0));
      }
    }

    private void both(ArrayList<Step> out, int depth) {
      single(out, depth);
      for (int i = 0; i < MAX_TOKENS && accept(Kind.AND); i++) {
        single(out, depth);
        out.add(new Step(Kind.AND, 0, 0));
      }
    }

    private void single(ArrayList<Step> out, int depth) {
      if (is(Kind.NOT)) {
        takeDeeper(Kind.NOT, depth);
        single(out, depth + 1);
        out.add(new Step(Kind.NOT, 0, 0));
      } else if (is(Kind.OPEN_SQUARE)) {
        takeDeeper(Kind.OPEN_SQUARE, depth);
        test(out, depth + 1);
        take(Kind.CLOSE_SQUARE);
      } else if (accept(Kind.BROKEN)) {
        Course course = toldCourse(take(Kind.NAME));
        out.add(new Step(Kind.BROKEN, course == null ? NOBODY : course.number, 0));
      } else {
        sum(out, depth);
        Kind comparison = takeComparison();
        sum(out, depth);
        out.add(new Step(comparison, 0, 0));
      }
    }

    private Kind takeComparison() {
      Kind kind = now.kind;
      switch (kind) {
        case BELOW:
        case ABOVE:
        case SAME:
        case AT_MOST:
        case AT_LEAST:
          take(kind);
          break;
        default:
          fail();
      }
      return kind;
    }

    private void sum(ArrayList<Step> out, int depth) {
      product(out, depth);
      for (int i = 0; i < MAX_TOKENS && (is(Kind.PLUS) || is(Kind.MINUS)); i++) {
        Kind operation = take(now.kind).kind;
        product(out, depth);
        out.add(new Step(operation, 0, 0));
      }
    }

    private void product(ArrayList<Step> out, int depth) {
      value(out, depth);
      for (int i = 0; i < MAX_TOKENS && (is(Kind.TIMES) || is(Kind.OVER)); i++) {
        Kind operation = take(now.kind).kind;
        value(out, depth);
        out.add(new Step(operation, 0, 0));
      }
    }

    private void value(ArrayList<Step> out, int depth) {
      if (is(Kind.NUMBER)) {
        out.add(new Step(Kind.NUMBER, take(Kind.NUMBER).number, 0));
      } else if (accept(Kind.DAY)) {
        out.add(new Step(Kind.DAY, 0, 0));
      } else if (accept(Kind.PITCH)) {
        out.add(new Step(Kind.PITCH, numberOf(toldKey(take(Kind.NAME))), 0));
      } else if (accept(Kind.GAP)) {
        int first = numberOf(toldKey(take(Kind.NAME)));
        int second = numberOf(toldKey(take(Kind.NAME)));
        out.add(new Step(Kind.GAP, first, second));
      } else if (is(Kind.MINUS)) {
        takeDeeper(Kind.MINUS, depth);
        value(out, depth + 1);
        out.add(new Step(Kind.NEGATE, 0, 0));
      } else if (is(Kind.OPEN)) {
        takeDeeper(Kind.OPEN, depth);
        sum(out, depth + 1);
        take(Kind.CLOSE);
      } else {
        choice(out, depth);
      }
    }

    private void choice(ArrayList<Step> out, int depth) {
      Kind kind = is(Kind.MIN) ? Kind.MIN : Kind.MAX;
      if (!accept(kind)) {
        fail();
        return;
      }
      takeDeeper(Kind.OPEN, depth);
      sum(out, depth + 1);
      take(Kind.COMMA);
      sum(out, depth + 1);
      take(Kind.CLOSE);
      out.add(new Step(kind, 0, 0));
    }

    private Course toldCourse(Token name) {
      Course course = draft.courseNamed(name.text);
      if (course == null) {
        note(NOT_TOLD, name);
      }
      return course;
    }

    private Key toldKey(Token name) {
      Key key = draft.keyboard.keyNamed(name.text);
      if (key == null) {
        note(NOT_TOLD, name);
      }
      return key;
    }

    private int numberUpTo(int most) {
      Token token = take(Kind.NUMBER);
      if (token.number > most) {
        note(OUT_OF_RANGE, token);
      }
      return token.number;
    }

    /** Nothing is there any more behind the first token that does not fit. */
    private boolean is(Kind kind) {
      return !failed && now.kind == kind;
    }

    private boolean accept(Kind kind) {
      if (!is(kind)) {
        return false;
      }
      goTo(place + 1);
      return true;
    }

    private Token take(Kind kind) {
      Token taken = now;
      if (is(kind)) {
        goTo(place + 1);
      } else {
        fail();
      }
      return taken;
    }

    private void takeDeeper(Kind kind, int depth) {
      if (depth >= MAX_DEPTH) {
        fail();
      } else {
        take(kind);
      }
    }

    private void goTo(int index) {
      if (index >= 0 && index < tokens.size()) {
        place = index;
        now = tokens.get(index);
      }
    }

    private void fail() {
      if (!failed) {
        failed = true;
        firstError = NOT_A_LIST;
        firstErrorAt = now.start;
      }
    }

    private void note(int error, Token token) {
      if (firstError == 0) {
        firstError = error;
        firstErrorAt = token.start;
      }
    }
  }

  /** A step of a sum or a test, for a stack: its operands are reckoned ahead of it. */
  private static final class Step {
    final Kind kind;
    final int first;
    final int second;

    Step(Kind kind, int first, int second) {
      this.kind = kind;
      this.first = first;
      this.second = second;
    }
  }

  private static final class Course {
    final int number;
    final String name;
    final int slack;
    final int holds;
    int pitch;
    boolean broken;
    int keysOn = 0;
    private int keptPitch = 0;
    private boolean keptBroken = false;

    Course(int number, String name, int pitch, int slack, int holds) {
      this.number = number;
      this.name = name;
      this.slack = slack;
      this.holds = holds;
      this.pitch = pitch;
      this.broken = pitch > holds;
    }

    void moveTo(int newPitch) {
      pitch = Math.max(newPitch, 0);
      if (pitch > holds) {
        broken = true;
      }
    }

    void keep() {
      keptPitch = pitch;
      keptBroken = broken;
    }

    void restore() {
      pitch = keptPitch;
      broken = keptBroken;
    }
  }

  private static final class Key {
    final int number;
    final String name;
    final Course course;
    final int at;

    Key(int number, String name, Course course, int at) {
      this.number = number;
      this.name = name;
      this.course = course;
      this.at = at;
    }

    boolean isSilent() {
      return course.broken;
    }

    int soundingPitch() {
      return course.broken ? SILENT : course.pitch + at;
    }

    int offWith(Key other, int cents) {
      if (isSilent() || other.isSilent()) {
        return 0;
      }
      return Math.abs(soundingPitch() - other.soundingPitch()) - cents;
    }

    int beatsWith(Key other, int cents) {
      if (isSilent() || other.isSilent()) {
        return 0;
      }
      int lower = Math.min(soundingPitch(), other.soundingPitch());
      return Math.abs(offWith(other, cents)) * speedOf(lower) / 2000;
    }

    private static int speedOf(int pitch) {
      int inOctave = pitch % OCTAVE_CENTS;
      int step = inOctave / 100;
      if (step < 0 || step + 1 >= SPEEDS.length) {
        return 0;
      }
      int rise = (SPEEDS[step + 1] - SPEEDS[step]) * (inOctave % 100) / 100;
      return (SPEEDS[step] + rise) << (pitch / OCTAVE_CENTS);
    }
  }

  private static final class Tune {
    final Key key;
    final Key from;
    final int interval;
    final int cents;
    final boolean up;
    final ArrayList<Step> less;
    final ArrayList<Step> when;
    int timesCarried = 0;

    Tune(
        Key key,
        Key from,
        int interval,
        boolean up,
        ArrayList<Step> less,
        ArrayList<Step> when) {
      this.key = key;
      this.from = from;
      this.interval = interval;
      this.cents = centsOf(interval);
      this.up = up;
      this.less = less;
      this.when = when;
    }

    /** Only fifths are tempered. */
    int lessAt(int tempered) {
      return cents == FIFTH_CENTS ? tempered : 0;
    }

    void retune(int lessCents) {
      int rise = up ? cents - lessCents : lessCents - cents;
      int goal = from.soundingPitch() + rise;
      key.course.moveTo(goal - key.at);
    }
  }

  /** The keys, and the fifths, thirds and triads among them. */
  private static final class Keyboard {
    final ArrayList<Key> keys = new ArrayList<Key>();

    Key keyNamed(String name) {
      for (int i = 0; i < keys.size(); i++) {
        if (keys.get(i).name.equals(name)) {
          return keys.get(i);
        }
      }
      return null;
    }

    int pitchOf(int key) {
      return key >= 0 && key < keys.size() ? keys.get(key).soundingPitch() : SILENT;
    }

    double meanPitch() {
      int sum = 0;
      int sounding = 0;
      for (int i = 0; i < keys.size(); i++) {
        if (!keys.get(i).isSilent()) {
          sum += keys.get(i).soundingPitch();
          sounding++;
        }
      }
      return sounding == 0 ? 0.0 : (double) sum / (double) sounding;
    }

    /** The key that sounds so many cents higher best, or null. */
    Key partner(Key key, int cents) {
      Key best = null;
      int least = MAX_SOUR + 1;
      for (int i = 0; i < keys.size() && !key.isSilent(); i++) {
        Key other = keys.get(i);
        if (other.number != key.number && !other.isSilent()) {
          int away = away(key, other, cents);
          if (away < least) {
            least = away;
            best = other;
          }
        }
      }
      return best;
    }

    int sourness(Key key, int cents) {
      Key other = partner(key, cents);
      return other == null ? 0 : away(key, other, cents);
    }

    private static int away(Key key, Key other, int cents) {
      int gap = other.soundingPitch() - key.soundingPitch();
      return Math.abs(Math.floorMod(gap, OCTAVE_CENTS) - cents);
    }

    int keysWith(int cents) {
      int found = 0;
      for (int i = 0; i < keys.size(); i++) {
        if (partner(keys.get(i), cents) != null) {
          found++;
        }
      }
      return found;
    }

    int allSour(int cents) {
      int sour = 0;
      for (int i = 0; i < keys.size(); i++) {
        sour += sourness(keys.get(i), cents);
      }
      return sour;
    }

    Key sourestFifth() {
      Key sourest = null;
      int most = -1;
      for (int i = 0; i < keys.size(); i++) {
        Key key = keys.get(i);
        int sour = partner(key, FIFTH_CENTS) == null ? -1 : sourness(key, FIFTH_CENTS);
        if (sour > most) {
          most = sour;
          sourest = key;
        }
      }
      return sourest;
    }

    int triadOf(Key key) {
      if (partner(key, FIFTH_CENTS) == null || partner(key, THIRD_CENTS) == null) {
        return -1;
      }
      return sourness(key, FIFTH_CENTS) + sourness(key, THIRD_CENTS);
    }

    Key sweetestTriad() {
      Key sweetest = null;
      int least = 2 * MAX_SOUR + 1;
      for (int i = 0; i < keys.size(); i++) {
        int sour = triadOf(keys.get(i));
        if (sour >= 0 && sour < least) {
          least = sour;
          sweetest = keys.get(i);
        }
      }
      return sweetest;
    }
  }

  /** All that a list tells, and the strings as they are now. */
  private static final class Clavichord {
    final ArrayList<Course> courses = new ArrayList<Course>();
    final Keyboard keyboard = new Keyboard();
    final ArrayList<Tune> tunes = new ArrayList<Tune>();
    // A step puts at most one number onto the stack, and there is at most one step for a token.
    private final int[] stack = new int[MAX_TOKENS];
    private int height = 0;

    void clear() {
      courses.clear();
      keyboard.keys.clear();
      tunes.clear();
    }

    Course courseNamed(String name) {
      for (int i = 0; i < courses.size(); i++) {
        if (courses.get(i).name.equals(name)) {
          return courses.get(i);
        }
      }
      return null;
    }

    int brokenCourses() {
      int broken = 0;
      for (int i = 0; i < courses.size(); i++) {
        if (courses.get(i).broken) {
          broken++;
        }
      }
      return broken;
    }

    void age(int damp) {
      for (int i = 0; i < courses.size(); i++) {
        Course course = courses.get(i);
        if (!course.broken) {
          course.moveTo(course.pitch + damp - course.slack);
        }
      }
    }

    /** Keeps the strings as they are, for what is only tried out. */
    void keep() {
      for (int i = 0; i < courses.size(); i++) {
        courses.get(i).keep();
      }
    }

    void restore() {
      for (int i = 0; i < courses.size(); i++) {
        courses.get(i).restore();
      }
    }

    boolean mayCarry(Tune tune, int day) {
      if (tune.key.isSilent() || tune.from.isSilent()) {
        return false;
      }
      return tune.when.isEmpty() || reckon(tune.when, day) != 0;
    }

    int lessOf(Tune tune, int day) {
      return Math.max(-MAX_LESS, Math.min(MAX_LESS, reckon(tune.less, day)));
    }

    /** Tries all tunes out; tempered is told behind less of all fifths, unless it is AS_TOLD. */
    int carryAllBut(Tune leftOut, int tempered, int day) {
      int carried = 0;
      for (int i = 0; i < tunes.size(); i++) {
        Tune tune = tunes.get(i);
        if (tune != leftOut && mayCarry(tune, day)) {
          tune.retune(tempered == AS_TOLD ? lessOf(tune, day) : tune.lessAt(tempered));
          carried++;
        }
      }
      return carried;
    }

    /** What the steps come to; 0 for no steps, 1 and 0 for a test that holds or does not. */
    private int reckon(ArrayList<Step> steps, int day) {
      height = 0;
      for (int i = 0; i < steps.size(); i++) {
        Step step = steps.get(i);
        switch (step.kind) {
          case NUMBER:
            push(step.first);
            break;
          case DAY:
            push(day);
            break;
          case PITCH:
            push(Math.max(keyboard.pitchOf(step.first), 0));
            break;
          case GAP:
            push(gap(keyboard.pitchOf(step.first), keyboard.pitchOf(step.second)));
            break;
          case BROKEN:
            push(isBroken(step.first) ? 1 : 0);
            break;
          case NEGATE:
            push(-pop());
            break;
          case NOT:
            push(pop() == 0 ? 1 : 0);
            break;
          default:
            int right = pop();
            int left = pop();
            push(joined(step.kind, left, right));
        }
      }
      return pop();
    }

    private static int gap(int low, int high) {
      return low == SILENT || high == SILENT ? 0 : high - low;
    }

    private boolean isBroken(int course) {
      return course >= 0 && course < courses.size() && courses.get(course).broken;
    }

    private static int joined(Kind kind, int left, int right) {
      switch (kind) {
        case PLUS:
          return left + right;
        case MINUS:
          return left - right;
        case TIMES:
          return left * right;
        case OVER:
          return right == 0 ? 0 : left / right;
        case MIN:
          return Math.min(left, right);
        case MAX:
          return Math.max(left, right);
        default:
          return holds(kind, left, right) ? 1 : 0;
      }
    }

    private static boolean holds(Kind kind, int left, int right) {
      switch (kind) {
        case BELOW:
          return left < right;
        case ABOVE:
          return left > right;
        case SAME:
          return left == right;
        case AT_MOST:
          return left <= right;
        case AT_LEAST:
          return left >= right;
        case AND:
          return left != 0 && right != 0;
        default:
          return left != 0 || right != 0;
      }
    }

    private void push(int x) {
      if (height >= 0 && height < stack.length) {
        stack[height] = x;
        height++;
      }
    }

    private int pop() {
      if (height <= 0 || height > stack.length) {
        return 0;
      }
      height--;
      return stack[height];
    }
  }
}
