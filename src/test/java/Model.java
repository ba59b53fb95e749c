import java.util.ArrayList;
import java.util.List;
import java.util.function.Predicate;
import java.util.function.ToIntFunction;

/**
 * The document told a second time, slow and plain, so that the answers of long runs can be held
 * against it. It reads no tape: what a list tells is put into it by hand, and what would be is tried
 * out on a copy.
 */
final class Model {
  static final class Course {
    final int slack;
    final int holds;
    int pitch;
    boolean broken;

    Course(int pitch, int slack, int holds) {
      this.slack = slack;
      this.holds = holds;
      sounds(pitch);
    }

    Course(Course other) {
      slack = other.slack;
      holds = other.holds;
      pitch = other.pitch;
      broken = other.broken;
    }

    void sounds(int newPitch) {
      pitch = newPitch < 0 ? 0 : newPitch;
      broken = broken || pitch > holds;
    }
  }

  record Key(int course, int at) {}

  /** Without a sum or a test these are null. */
  record Line(
      int key, int from, int interval, boolean up, ToIntFunction<Model> less, Predicate<Model> when) {}

  private static final int[] CENTS = {702, 498, 386, 1200};
  private static final int[] FAST = {
    1000, 1059, 1122, 1189, 1260, 1335, 1414, 1498, 1587, 1682, 1782, 1888, 2000
  };

  final List<Course> courses = new ArrayList<>();
  final List<Key> keys = new ArrayList<>();
  final List<Line> lines = new ArrayList<>();
  final List<Integer> times = new ArrayList<>();
  int day = 0;
  int damp = 0;
  int tape = 0;

  Model copy() {
    Model other = new Model();
    courses.forEach(c -> other.courses.add(new Course(c)));
    other.keys.addAll(keys);
    other.lines.addAll(lines);
    other.times.addAll(times);
    other.day = day;
    other.damp = damp;
    other.tape = tape;
    return other;
  }

  /** The list in the place of all that was told before; the day and the damp stay. */
  void teach(Model list) {
    Model fresh = list.copy();
    courses.clear();
    courses.addAll(fresh.courses);
    keys.clear();
    keys.addAll(fresh.keys);
    lines.clear();
    lines.addAll(fresh.lines);
    times.clear();
    lines.forEach(line -> times.add(0));
    tape = 0;
  }

  // ---- the parts of the document's second chapter

  boolean silent(int key) {
    return courses.get(keys.get(key).course).broken;
  }

  int pitch(int key) {
    return courses.get(keys.get(key).course).pitch + keys.get(key).at;
  }

  int gap(int first, int second) {
    return silent(first) || silent(second) ? 0 : pitch(second) - pitch(first);
  }

  private int less(Line line) {
    int told = line.less == null ? 0 : line.less.applyAsInt(this);
    return told > 100 ? 100 : told < -100 ? -100 : told;
  }

  private boolean now(Line line) {
    boolean holds = line.when == null || line.when.test(this);
    return holds && !silent(line.key) && !silent(line.from);
  }

  private boolean carryOut(int tune) {
    Line line = lines.get(tune);
    if (!now(line)) {
      return false;
    }
    int by = CENTS[line.interval] - less(line);
    int due = pitch(line.from) + (line.up ? by : -by);
    Course course = courses.get(keys.get(line.key).course);
    course.sounds(course.pitch + due - pitch(line.key));
    times.set(tune, times.get(tune) + 1);
    return true;
  }

  private void letADayGoBy() {
    for (Course course : courses) {
      if (!course.broken) {
        course.sounds(course.pitch + damp - course.slack);
      }
    }
    day++;
  }

  /** The nearest of all other keys, looked for from the last one on; -1 without one. */
  private int partner(int key, int pure) {
    int partner = -1;
    int least = 60;
    for (int other = keys.size() - 1; other >= 0; other--) {
      if (other != key && !silent(key) && !silent(other) && sour(key, other, pure) <= least) {
        least = sour(key, other, pure);
        partner = other;
      }
    }
    return partner;
  }

  private int sour(int key, int other, int pure) {
    int rest = (pitch(other) - pitch(key) + 12 * 1200) % 1200;
    return Math.abs(rest - pure);
  }

  private int sour(int key, int pure) {
    int other = partner(key, pure);
    return other < 0 ? 0 : sour(key, other, pure);
  }

  private int allSour(int pure) {
    int sum = 0;
    for (int key = 0; key < keys.size(); key++) {
      sum += sour(key, pure);
    }
    return sum;
  }

  private int fast(int pitch) {
    int o = pitch / 1200;
    int r = pitch % 1200;
    int k = r / 100;
    int s = r % 100;
    int speed = FAST[k] + (FAST[k + 1] - FAST[k]) * s / 100;
    for (int i = 0; i < o; i++) {
      speed *= 2;
    }
    return speed;
  }

  // ---- the face

  private static void index(boolean there) {
    if (!there) {
      throw new IndexOutOfBoundsException();
    }
  }

  private static void argument(boolean good) {
    if (!good) {
      throw new IllegalArgumentException();
    }
  }

  private void keysAndInterval(int a, int b, int interval) {
    index(a >= 0 && a < keys.size() && b >= 0 && b < keys.size());
    index(interval >= 0 && interval <= 3);
  }

  int feed() {
    if (tape > 1980) {
      throw new IllegalStateException();
    }
    tape += 20;
    return tape;
  }

  int trim(int n) {
    argument(n >= 0 && n <= tape);
    tape = n;
    return n;
  }

  int count(int what) {
    index(what >= 0 && what <= 10);
    switch (what) {
      case 0:
        return day;
      case 1:
        return damp;
      case 2:
        return courses.size();
      case 3:
        return (int) courses.stream().filter(c -> c.broken).count();
      case 4:
        return keys.size();
      case 5:
        return lines.size();
      case 6:
        return keysWith(702);
      case 7:
        return keysWith(386);
      case 8:
        return allSour(702);
      case 9:
        return allSour(386);
      default:
        return tape;
    }
  }

  private int keysWith(int pure) {
    int found = 0;
    for (int key = 0; key < keys.size(); key++) {
      found += partner(key, pure) < 0 ? 0 : 1;
    }
    return found;
  }

  int course(int course, int what) {
    index(course >= 0 && course < courses.size() && what >= 0 && what <= 4);
    Course c = courses.get(course);
    int on = (int) keys.stream().filter(k -> k.course == course).count();
    return new int[] {c.pitch, c.slack, c.holds, c.broken ? 1 : 0, on}[what];
  }

  int key(int key, int what) {
    index(key >= 0 && key < keys.size() && what >= 0 && what <= 6);
    Key k = keys.get(key);
    switch (what) {
      case 0:
        return k.course;
      case 1:
        return k.at;
      case 2:
        return silent(key) ? -1 : pitch(key);
      case 3:
        return partner(key, 702);
      case 4:
        return sour(key, 702);
      case 5:
        return partner(key, 386);
      default:
        return sour(key, 386);
    }
  }

  int tune(int tune, int what) {
    index(tune >= 0 && tune < lines.size() && what >= 0 && what <= 6);
    Line line = lines.get(tune);
    int[] all = {
      line.key, line.from, line.interval, line.up ? 1 : 0, less(line), now(line) ? 1 : 0,
      times.get(tune)
    };
    return all[what];
  }

  int carry(int tune) {
    index(tune >= 0 && tune < lines.size());
    return carryOut(tune) ? 1 : 0;
  }

  int run() {
    return runWithout(-1);
  }

  private int runWithout(int leftOut) {
    int carried = 0;
    for (int tune = 0; tune < lines.size(); tune++) {
      carried += tune != leftOut && carryOut(tune) ? 1 : 0;
    }
    return carried;
  }

  int turn(int course, int cents) {
    index(course >= 0 && course < courses.size());
    argument(cents >= -600 && cents <= 600);
    Course c = courses.get(course);
    if (c.broken) {
      throw new IllegalStateException();
    }
    c.sounds(c.pitch + cents);
    return c.pitch;
  }

  int string(int course, int pitch) {
    index(course >= 0 && course < courses.size());
    Course c = courses.get(course);
    argument(pitch >= 0 && pitch <= c.holds);
    int before = c.pitch;
    courses.set(course, new Course(pitch, c.slack, c.holds));
    return before;
  }

  int setDamp(int newDamp) {
    argument(newDamp >= -5 && newDamp <= 5);
    int before = damp;
    damp = newDamp;
    return before;
  }

  int pass(int days) {
    argument(days >= 1 && days <= 120);
    int before = count(3);
    for (int i = 0; i < days; i++) {
      letADayGoBy();
    }
    return count(3) - before;
  }

  int off(int a, int b, int interval) {
    keysAndInterval(a, b, interval);
    return silent(a) || silent(b) ? 0 : Math.abs(pitch(a) - pitch(b)) - CENTS[interval];
  }

  int beats(int a, int b, int interval) {
    keysAndInterval(a, b, interval);
    int lower = Math.min(pitch(a), pitch(b));
    return silent(a) || silent(b) ? 0 : Math.abs(off(a, b, interval)) * fast(lower) / 2000;
  }

  int wolf() {
    int wolf = -1;
    for (int key = keys.size() - 1; key >= 0; key--) {
      if (partner(key, 702) >= 0 && (wolf < 0 || sour(key, 702) >= sour(wolf, 702))) {
        wolf = key;
      }
    }
    return wolf;
  }

  int triad(int key) {
    index(key >= 0 && key < keys.size());
    boolean both = partner(key, 702) >= 0 && partner(key, 386) >= 0;
    return both ? sour(key, 702) + sour(key, 386) : -1;
  }

  int sweetest() {
    int sweetest = -1;
    for (int key = keys.size() - 1; key >= 0; key--) {
      if (triad(key) >= 0 && (sweetest < 0 || triad(key) <= triad(sweetest))) {
        sweetest = key;
      }
    }
    return sweetest;
  }

  int would(int what) {
    index(what >= 0 && what <= 4);
    Model then = copy();
    int carried = then.run();
    return new int[] {then.count(8), then.count(9), then.wolf(), then.count(3), carried}[what];
  }

  int without(int tune) {
    index(tune >= 0 && tune < lines.size());
    Model then = copy();
    then.runWithout(tune);
    return then.count(8) + then.count(9);
  }

  int temper() {
    int best = 12;
    int least = Integer.MAX_VALUE;
    for (int cents = 12; cents >= 0; cents--) {
      Model then = copy();
      int fifths = cents;
      then.lines.replaceAll(
          t -> new Line(t.key, t.from, t.interval, t.up, m -> t.interval == 0 ? fifths : 0, t.when));
      then.run();
      int sum = then.count(8) + then.count(9);
      if (sum <= least) {
        least = sum;
        best = cents;
      }
    }
    return best;
  }

  int lasts(int a, int b, int interval, int cents) {
    keysAndInterval(a, b, interval);
    argument(cents >= 0 && cents <= 200);
    Model then = copy();
    for (int days = 0; days <= 200; days++) {
      int off = then.off(a, b, interval);
      if (then.silent(a) || then.silent(b) || off > cents || off < -cents) {
        return days;
      }
      then.letADayGoBy();
    }
    return -1;
  }

  double mean() {
    double sum = 0;
    int sounding = 0;
    for (int key = 0; key < keys.size(); key++) {
      sum += silent(key) ? 0 : pitch(key);
      sounding += silent(key) ? 0 : 1;
    }
    return sounding == 0 ? 0 : sum / sounding;
  }

  long digest() {
    List<Integer> told = new ArrayList<>();
    for (int what = 0; what <= 10; what++) {
      told.add(count(what));
    }
    for (int course = 0; course < courses.size(); course++) {
      for (int what = 0; what <= 4; what++) {
        told.add(course(course, what));
      }
    }
    for (int key = 0; key < keys.size(); key++) {
      for (int what = 0; what <= 6; what++) {
        told.add(key(key, what));
      }
    }
    for (int tune = 0; tune < lines.size(); tune++) {
      for (int what = 0; what <= 6; what++) {
        told.add(tune(tune, what));
      }
    }
    told.add(wolf());
    told.add(sweetest());
    long d = 809;
    for (int x : told) {
      d = d * 31 + x;
    }
    return d;
  }
}
