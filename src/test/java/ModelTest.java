/**
 * All promises: long runs by chance, of 512 calls each, with the answers that the Model gives. A
 * fault names its seed; the same seed always makes the same run.
 */
final class ModelTest {
  private static final int SEEDS = 150;
  private static final int MOST_CALLS = 512;
  private static final int MOST_BYTES = 800;
  private static final Rig RIG = new Rig();

  private final int seed;
  private final Dice dice;
  private final ClaviTuner x = new ClaviTuner();
  private final Model m = new Model();
  private int calls = 0;
  private boolean asDue = true;

  private ModelTest(int seed) {
    this.seed = seed;
    this.dice = new Dice(seed);
  }

  public static void main(String[] args) {
    for (int seed = 1; seed <= SEEDS; seed++) {
      new ModelTest(seed).play();
    }
    RIG.end();
  }

  private void play() {
    teach();
    while (calls < MOST_CALLS - 1 && asDue) {
      int kind = dice.below(100);
      if (kind < 2) {
        teach();
      } else if (kind < 4) {
        teachWrong();
      } else if (kind < 35) {
        byHand();
      } else if (kind < 55) {
        facts();
      } else if (kind < 75) {
        sounds();
      } else {
        wouldBe();
      }
    }
    digest();
  }

  /** The two answer the same, with the same exception's name where they throw one. */
  private void same(String call, Rig.Call made, Rig.Call due) {
    sameTold(call, answered(made, "ClaviTuner"), answered(due, "Model"));
  }

  private void sameTold(String call, String got, String want) {
    calls++;
    if (asDue && !got.equals(want)) {
      RIG.tell("seed " + seed + ", call " + calls + ": " + call + " answered " + got + ", due is " + want);
      asDue = false;
    }
  }

  /** An exception counts only if this class throws it itself. */
  private static String answered(Rig.Call call, String thrower) {
    try {
      return "" + call.answer();
    } catch (IndexOutOfBoundsException | IllegalArgumentException | IllegalStateException e) {
      return e.getClass().getSimpleName() + Rig.notBy(thrower, e);
    }
  }

  /** Mostly one of so many, now and then none of them. */
  private int oneOf(int many) {
    if (many == 0 || dice.oneIn(25)) {
      return dice.of(-1, many, Integer.MAX_VALUE, Integer.MIN_VALUE);
    }
    return dice.below(many);
  }

  /** Mostly within these bounds, now and then just beyond them. */
  private int within(int least, int most) {
    int near = dice.of(least - 1, least, most, most + 1);
    return dice.oneIn(6) ? near : dice.between(least, most);
  }

  private void digest() {
    same("digest()", () -> x.digest(), () -> m.digest());
  }

  // ---- lists

  private boolean feed(String text) {
    int feeds = (text.length() + 19) / 20;
    if (calls + feeds + 5 > MOST_CALLS - 1) {
      return false;
    }
    same("trim(0)", () -> x.trim(0), () -> m.trim(0));
    for (int i = 0; i < feeds; i++) {
      int[] n = Rig.fiveNumbers(text, 20 * i);
      same("feed", () -> x.feed(n[0], n[1], n[2], n[3], n[4]), () -> m.feed());
    }
    same("trim", () -> x.trim(text.length()), () -> m.trim(text.length()));
    return true;
  }

  private void teach() {
    ListMaker list = new ListMaker(dice, MOST_BYTES);
    if (feed(list.text())) {
      m.teach(list.told);
      same("teach() of " + list.text(), () -> x.teach(), () -> 0);
      same("errorAt()", () -> x.errorAt(), () -> -1);
      digest();
    }
  }

  private void teachWrong() {
    ListMaker.Wrong list = new ListMaker(dice, dice.between(100, MOST_BYTES)).wrong();
    if (feed(list.text())) {
      m.trim(0);
      same("teach() of " + list.text(), () -> x.teach(), () -> list.error());
      same("errorAt() of " + list.text(), () -> x.errorAt(), () -> list.at());
      digest();
    }
  }

  private void tape() {
    if (dice.oneIn(2)) {
      same("feed", () -> x.feed(-1, 0, 1, 2, 3), () -> m.feed());
    } else {
      int n = within(0, m.tape);
      same("trim(" + n + ")", () -> x.trim(n), () -> m.trim(n));
    }
  }

  // ---- calls

  private void byHand() {
    int course = oneOf(m.courses.size());
    int tune = oneOf(m.lines.size());
    switch (dice.below(8)) {
      case 0:
        tape();
        break;
      case 1:
        same("carry(" + tune + ")", () -> x.carry(tune) ? 1 : 0, () -> m.carry(tune));
        break;
      case 2:
        same("run()", () -> x.run(), () -> m.run());
        break;
      case 3:
        int cents = dice.oneIn(3) ? within(-600, 600) : dice.between(-30, 30);
        same("turn(" + course + ", " + cents + ")", () -> x.turn(course, cents), () -> m.turn(course, cents));
        break;
      case 4:
      case 5:
        string(course);
        break;
      case 6:
        int damp = within(-5, 5);
        same("setDamp(" + damp + ")", () -> x.setDamp(damp), () -> m.setDamp(damp));
        break;
      default:
        int days = dice.oneIn(3) ? within(1, 120) : dice.between(1, 9);
        same("pass(" + days + ")", () -> x.pass(days), () -> m.pass(days));
    }
    if (dice.oneIn(3) && calls < MOST_CALLS - 1) {
      digest();
    }
  }

  /** A broken course, if there is one: else all would soon be silent. */
  private void string(int course) {
    int strung = course;
    for (int i = 0; i < m.courses.size(); i++) {
      strung = m.courses.get(i).broken ? i : strung;
    }
    int asked = strung;
    boolean there = asked >= 0 && asked < m.courses.size();
    int pitch = within(0, there ? m.courses.get(asked).holds : 0);
    same("string(" + asked + ", " + pitch + ")", () -> x.string(asked, pitch), () -> m.string(asked, pitch));
  }

  private void facts() {
    int course = oneOf(m.courses.size());
    int key = oneOf(m.keys.size());
    int tune = oneOf(m.lines.size());
    switch (dice.below(4)) {
      case 0:
        int count = oneOf(11);
        same("count(" + count + ")", () -> x.count(count), () -> m.count(count));
        break;
      case 1:
        int ofCourse = oneOf(5);
        same("course(" + course + ", " + ofCourse + ")", () -> x.course(course, ofCourse), () -> m.course(course, ofCourse));
        break;
      case 2:
        int ofKey = oneOf(7);
        same("key(" + key + ", " + ofKey + ")", () -> x.key(key, ofKey), () -> m.key(key, ofKey));
        break;
      default:
        int ofTune = oneOf(7);
        same("tune(" + tune + ", " + ofTune + ")", () -> x.tune(tune, ofTune), () -> m.tune(tune, ofTune));
    }
  }

  private void sounds() {
    int a = oneOf(m.keys.size());
    int b = oneOf(m.keys.size());
    int interval = oneOf(4);
    String asked = "(" + a + ", " + b + ", " + interval + ")";
    switch (dice.below(5)) {
      case 0:
        same("off" + asked, () -> x.off(a, b, interval), () -> m.off(a, b, interval));
        break;
      case 1:
        same("beats" + asked, () -> x.beats(a, b, interval), () -> m.beats(a, b, interval));
        break;
      case 2:
        same("wolf()", () -> x.wolf(), () -> m.wolf());
        break;
      case 3:
        same("triad(" + a + ")", () -> x.triad(a), () -> m.triad(a));
        break;
      default:
        same("sweetest()", () -> x.sweetest(), () -> m.sweetest());
    }
  }

  private void wouldBe() {
    int a = oneOf(m.keys.size());
    int b = oneOf(m.keys.size());
    int tune = oneOf(m.lines.size());
    switch (dice.below(6)) {
      case 0:
        int what = oneOf(5);
        same("would(" + what + ")", () -> x.would(what), () -> m.would(what));
        break;
      case 1:
        same("without(" + tune + ")", () -> x.without(tune), () -> m.without(tune));
        break;
      case 2:
        same("temper()", () -> x.temper(), () -> m.temper());
        break;
      case 3:
        lasts(a, b, oneOf(4));
        break;
      case 4:
        sameTold("mean()", "" + x.mean(), "" + m.mean());
        break;
      default:
        digest();
    }
  }

  /** Mostly of the interval that they are nearest to, and a few cents more than they are off now. */
  private void lasts(int a, int b, int interval) {
    boolean there = a >= 0 && a < m.keys.size() && b >= 0 && b < m.keys.size();
    if (there && !dice.oneIn(4)) {
      int nearest = nearest(a, b);
      int cents = Math.abs(m.off(a, b, nearest)) + dice.below(20);
      sameLasts(a, b, nearest, cents > 200 ? within(150, 200) : cents);
    } else {
      sameLasts(a, b, interval, within(0, 200));
    }
  }

  private int nearest(int a, int b) {
    int nearest = 0;
    for (int i = 1; i <= 3; i++) {
      nearest = Math.abs(m.off(a, b, i)) < Math.abs(m.off(a, b, nearest)) ? i : nearest;
    }
    return nearest;
  }

  private void sameLasts(int a, int b, int interval, int cents) {
    String asked = "lasts(" + a + ", " + b + ", " + interval + ", " + cents + ")";
    same(asked, () -> x.lasts(a, b, interval, cents), () -> m.lasts(a, b, interval, cents));
  }
}
