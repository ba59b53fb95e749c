import java.util.ArrayList;
import java.util.Arrays;
import java.util.List;
import java.util.function.Predicate;
import java.util.function.ToIntFunction;

/**
 * Makes a list by chance: its text, and a Model of what it tells. Sums and tests are made as trees
 * and written with no more brackets than they need, so that the text says what binds more.
 */
final class ListMaker {
  /** The text has this error at this byte. */
  record Wrong(String text, int error, int at) {}

  /** Level 0 is a sum, 1 a product, 2 a value. */
  private record Sum(List<String> tokens, int level, int depth, ToIntFunction<Model> is) {}

  /** Level 0 is a test, 1 a both, 2 a single. */
  private record Test(List<String> tokens, int level, int depth, Predicate<Model> is) {}

  private static final int MOST_TOKENS = 380;
  private static final String NOT_TOLD = "zzzzzzzzzz";

  private final Dice dice;
  private final int mostBytes;
  private final StringBuilder text = new StringBuilder();
  private final List<Integer> starts = new ArrayList<>();
  private final List<Integer> lineStarts = new ArrayList<>();
  private final List<String> courseNames = new ArrayList<>();
  private final List<String> keyNames = new ArrayList<>();
  final Model told = new Model();

  ListMaker(Dice dice, int mostBytes) {
    this.dice = dice;
    this.mostBytes = mostBytes;
    addCourse();
    addCourse();
    int courses = dice.between(0, 5);
    int keys = dice.between(2, 12);
    for (int i = dice.below(4); i < 44; i++) {
      addLine(i < courses ? 0 : i < courses + keys ? 1 : 2);
    }
  }

  /** Mostly a line of this kind: 0 a course, 1 a key, 2 a tune. */
  private void addLine(int mostly) {
    int kind = dice.oneIn(6) ? dice.below(3) : mostly;
    if (kind == 0 && courseNames.size() < 8) {
      addCourse();
    } else if (kind == 1 && keyNames.size() < 20) {
      addKey();
    } else if (told.lines.size() < 24) {
      addTune();
    }
  }

  String text() {
    return text.toString();
  }

  // ---- lines

  private boolean write(List<String> tokens) {
    int bytes = tokens.stream().mapToInt(t -> t.length() + 1).sum();
    if (text.length() + bytes > mostBytes || starts.size() + tokens.size() > MOST_TOKENS) {
      return false;
    }
    lineStarts.add(starts.size());
    for (String token : tokens) {
      boolean joins = text.length() > 0 && wouldJoin(text.charAt(text.length() - 1), token);
      if (joins || dice.oneIn(12)) {
        text.append(dice.oneIn(9) ? '\n' : ' ');
      }
      starts.add(text.length());
      text.append(token);
    }
    return true;
  }

  private static boolean wouldJoin(char last, String token) {
    return Character.isLetterOrDigit(last) && Character.isLetterOrDigit(token.charAt(0));
  }

  private void addCourse() {
    String name = newName(courseNames);
    int pitch = dice.of(1200, 1902, 1404, 2106, 1608, 1110, 1586, 2400) + dice.between(-9, 9);
    pitch = dice.oneIn(8) ? dice.of(0, 4800, 30) : pitch;
    int slack = dice.oneIn(2) ? 0 : dice.below(10);
    int holds = dice.oneIn(3) ? 6000 : Math.min(6000, Math.max(0, pitch + dice.between(-20, 700)));
    List<String> line = List.of("course", name, "pitch", number(pitch), "slack", number(slack));
    if (write(joined(line, List.of("holds", number(holds), ";")))) {
      courseNames.add(name);
      told.courses.add(new Model.Course(pitch, slack, holds));
    }
  }

  private void addKey() {
    String name = newName(keyNames);
    int course = dice.below(courseNames.size());
    int at = dice.oneIn(2) ? 0 : dice.of(1, 90, 204, 386, 498, 600, dice.below(601));
    if (write(List.of("key", name, "on", courseNames.get(course), "at", number(at), ";"))) {
      keyNames.add(name);
      told.keys.add(new Model.Key(course, at));
    }
  }

  private void addTune() {
    if (keyNames.isEmpty()) {
      return;
    }
    int key = dice.below(keyNames.size());
    // Chains of fifths and fourths, as they are tuned, and whatever else there can be.
    boolean chained = !told.lines.isEmpty() && !dice.oneIn(3);
    int from = chained ? told.lines.get(told.lines.size() - 1).key() : dice.below(keyNames.size());
    if (told.keys.get(key).course() == told.keys.get(from).course()) {
      return;
    }
    int interval = chained ? dice.of(0, 0, 0, 0, 1, 1, 1, 2) : dice.below(4);
    boolean up = dice.oneIn(5) ? dice.oneIn(2) : interval != 1;
    String word = List.of("fifth", "fourth", "third", "octave").get(interval);
    List<String> line = new ArrayList<>();
    line.addAll(List.of("tune", keyNames.get(key), "from", keyNames.get(from), word));
    line.add(up ? "up" : "down");
    Sum less = dice.oneIn(3) ? sum(dice.below(4)) : null;
    if (less != null) {
      line.add("less");
      line.addAll(less.tokens);
    }
    Test when = dice.oneIn(3) ? test(dice.below(3)) : null;
    if (when != null) {
      line.add("when");
      line.addAll(when.tokens);
    }
    line.add(";");
    if (write(line)) {
      told.lines.add(
          new Model.Line(
              key, from, interval, up, less == null ? null : less.is, when == null ? null : when.is));
    }
  }

  private String newName(List<String> told) {
    String name;
    do {
      StringBuilder s = new StringBuilder();
      s.append((char) ('a' + dice.below(26)));
      int more = dice.oneIn(5) ? dice.below(9) : dice.below(3);
      for (int i = 0; i < more; i++) {
        s.append((char) (dice.oneIn(2) ? '0' + dice.below(10) : 'a' + dice.below(26)));
      }
      name = s.toString();
    } while (told.contains(name) || Arrays.asList(Lists.KEYWORDS).contains(name));
    return name;
  }

  private String number(int n) {
    String digits = "" + n;
    return dice.oneIn(9) && digits.length() < 6 ? "0".repeat(6 - digits.length()) + digits : digits;
  }

  private static List<String> joined(List<String> left, List<String> right) {
    List<String> both = new ArrayList<>(left);
    both.addAll(right);
    return both;
  }

  private static List<String> joined(List<String> left, String between, List<String> right) {
    return joined(joined(left, List.of(between)), right);
  }

  // ---- sums

  private Sum sum(int height) {
    if (height == 0) {
      return leaf();
    }
    switch (dice.below(6)) {
      case 0:
      case 1:
        return binary(sum(height - 1), dice.oneIn(2) ? "+" : "-", sum(dice.below(height)), 0);
      case 2:
      case 3:
        return binary(sum(height - 1), dice.oneIn(2) ? "*" : "/", sum(dice.below(height)), 1);
      case 4:
        return choice(sum(height - 1), dice.oneIn(2) ? "min" : "max", sum(dice.below(height)));
      default:
        return negated(asLevel(sum(height - 1), 2));
    }
  }

  private Sum leaf() {
    int kind = dice.below(4);
    if (kind == 0) {
      return new Sum(List.of("day"), 2, 0, m -> m.day);
    }
    if (kind == 1 && !keyNames.isEmpty()) {
      int key = dice.below(keyNames.size());
      List<String> tokens = List.of("pitch", keyNames.get(key));
      return new Sum(tokens, 2, 0, m -> m.silent(key) ? 0 : m.pitch(key));
    }
    if (kind == 2 && !keyNames.isEmpty()) {
      int first = dice.below(keyNames.size());
      int second = dice.below(keyNames.size());
      List<String> tokens = List.of("gap", keyNames.get(first), keyNames.get(second));
      return new Sum(tokens, 2, 0, m -> m.gap(first, second));
    }
    int n = dice.of(0, 1, 2, 3, 5, 7, 10, 99, 386, 702, 1200, 4096, 65536, 999999);
    return new Sum(List.of(number(n)), 2, 0, m -> n);
  }

  private static Sum binary(Sum left, String sign, Sum right, int level) {
    Sum a = asLevel(left, level);
    Sum b = asLevel(right, level + 1);
    int depth = Math.max(a.depth, b.depth);
    ToIntFunction<Model> is = m -> joined(sign, a.is.applyAsInt(m), b.is.applyAsInt(m));
    return new Sum(joined(a.tokens, sign, b.tokens), level, depth, is);
  }

  /** In 64 bits first; the last 32 of them are what wraps around. */
  private static int joined(String sign, long left, long right) {
    switch (sign) {
      case "+":
        return (int) (left + right);
      case "-":
        return (int) (left - right);
      case "*":
        return (int) (left * right);
      case "min":
        return (int) (left < right ? left : right);
      case "max":
        return (int) (left > right ? left : right);
      default:
        return right == 0 ? 0 : (int) (left / right);
    }
  }

  private static Sum choice(Sum left, String word, Sum right) {
    List<String> tokens = joined(List.of(word, "("), joined(left.tokens, ",", right.tokens));
    int depth = 1 + Math.max(left.depth, right.depth);
    ToIntFunction<Model> is = m -> joined(word, left.is.applyAsInt(m), right.is.applyAsInt(m));
    return new Sum(joined(tokens, List.of(")")), 2, depth, is);
  }

  private static Sum negated(Sum value) {
    ToIntFunction<Model> is = m -> (int) -(long) value.is.applyAsInt(m);
    return new Sum(joined(List.of("-"), value.tokens), 2, value.depth + 1, is);
  }

  private static Sum asLevel(Sum sum, int level) {
    if (sum.level >= level) {
      return sum;
    }
    List<String> tokens = joined(List.of("("), joined(sum.tokens, List.of(")")));
    return new Sum(tokens, 2, sum.depth + 1, sum.is);
  }

  // ---- tests

  private Test test(int height) {
    if (height == 0) {
      return dice.oneIn(4) ? broken() : comparison();
    }
    Test left = test(height - 1);
    switch (dice.below(3)) {
      case 0:
        Test either = asLevel(test(dice.below(height)), 1);
        Predicate<Model> one = m -> left.is.test(m) | either.is.test(m);
        return new Test(joined(left.tokens, "or", either.tokens), 0, deeper(left, either), one);
      case 1:
        Test first = asLevel(left, 1);
        Test second = asLevel(test(dice.below(height)), 2);
        Predicate<Model> both = m -> first.is.test(m) & second.is.test(m);
        return new Test(joined(first.tokens, "and", second.tokens), 1, deeper(first, second), both);
      default:
        Test single = asLevel(left, 2);
        Predicate<Model> not = m -> !single.is.test(m);
        return new Test(joined(List.of("not"), single.tokens), 2, single.depth + 1, not);
    }
  }

  private static int deeper(Test left, Test right) {
    return Math.max(left.depth, right.depth);
  }

  private Test broken() {
    int course = dice.below(courseNames.size());
    List<String> tokens = List.of("broken", courseNames.get(course));
    return new Test(tokens, 2, 0, m -> m.courses.get(course).broken);
  }

  private Test comparison() {
    Sum left = sum(dice.below(3));
    Sum right = sum(dice.below(2));
    String sign = List.of("<", ">", "=", "<=", ">=").get(dice.below(5));
    int depth = Math.max(left.depth, right.depth);
    Predicate<Model> is = m -> holds(sign, left.is.applyAsInt(m), right.is.applyAsInt(m));
    return new Test(joined(left.tokens, sign, right.tokens), 2, depth, is);
  }

  private static boolean holds(String sign, int left, int right) {
    boolean less = sign.startsWith("<") && left < right;
    boolean more = sign.startsWith(">") && left > right;
    return less || more || sign.endsWith("=") && left == right;
  }

  private static Test asLevel(Test test, int level) {
    if (test.level >= level) {
      return test;
    }
    List<String> tokens = joined(List.of("["), joined(test.tokens, List.of("]")));
    return new Test(tokens, 2, test.depth + 1, test.is);
  }

  // ---- wrong lists

  /** This list with something wrong in it or behind it. */
  Wrong wrong() {
    int token = dice.below(starts.size());
    int at = starts.get(token);
    switch (dice.below(6)) {
      case 0:
        char sign = (char) dice.of('?', 'A', '_', '"', 9, 13, 0, 127, 128, 255);
        return new Wrong(text.substring(0, at) + sign + text.substring(at), 1, at);
      case 1:
        int end = lineStarts.contains(token) ? starts.get(token + 1) : at;
        return new Wrong(text.substring(0, end), 1, end);
      case 2:
        String told = courseNames.get(dice.below(courseNames.size()));
        return behind(2, "course @" + told + " pitch 9999 slack 0 holds 0;");
      case 3:
        return keyNames.size() < 20
            ? behind(3, "key " + NOT_TOLD + " on @" + NOT_TOLD + " at 601;")
            : behind(4, "key @" + NOT_TOLD + " on " + NOT_TOLD + " at 601;");
      case 4:
        return courseNames.size() < 8
            ? behind(5, "course " + NOT_TOLD + " pitch @4801 slack 10 holds 0;")
            : behind(4, "course @" + NOT_TOLD + " pitch 4801 slack 10 holds 0;");
      default:
        return wrongTune();
    }
  }

  private Wrong wrongTune() {
    if (told.lines.size() >= 24) {
      return behind(4, "@tune " + NOT_TOLD + " from " + NOT_TOLD + " third up;");
    }
    if (keyNames.isEmpty()) {
      return behind(3, "tune @" + NOT_TOLD + " from " + NOT_TOLD + " third up;");
    }
    String key = keyNames.get(dice.below(keyNames.size()));
    return behind(6, "tune " + key + " from @" + key + " third up less pitch " + NOT_TOLD + ";");
  }

  private Wrong behind(int error, String marked) {
    return new Wrong(text + Lists.unmarked(marked), error, text.length() + Lists.placeOf(marked));
  }
}
