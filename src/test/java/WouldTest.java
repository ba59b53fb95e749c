/** Promises 21 to 26: would, without, temper, lasts, mean, digest. */
final class WouldTest {
  private static final Rig RIG = new Rig();

  private static final String STRINGS =
      Rig.courses("s0", 2400, 1, 2700, "s1", 3100, 2, 3400, "s2", 2600, 1, 2900)
          + Rig.courses("s3", 3300, 3, 3700, "s4", 2786, 0, 3100, "s5", 3480, 1, 3481)
          + Rig.keys("c", "s0", 0, "g", "s1", 0, "d", "s2", 0, "a", "s3", 0, "e", "s4", 0)
          + Rig.keys("b", "s5", 0, "cis", "s0", 85, "gis", "s1", 80, "f", "s4", 110);

  public static void main(String[] args) {
    promise21Would();
    promise21Refused();
    promise22Without();
    promise23Temper();
    promise23Edges();
    promise24Lasts();
    promise24Edges();
    promise24Refused();
    promise25Mean();
    promise26Digest();
    RIG.end();
  }

  /** The list with these cents behind less of its fifths, and others of its other tunes. */
  private static String list(String fifths, String others) {
    String fifth = " less " + fifths;
    String other = " less " + others;
    return STRINGS
        + "tune g from c fifth up" + fifth + ";tune d from g fourth down" + other
        + ";tune a from d fifth up" + fifth + " when not broken s2;tune e from a fourth down" + other
        + ";tune b from e fifth up" + fifth + ";tune c from e third down" + other
        + " when broken s5 or day > 1;tune b from g third up;";
  }

  private static int sour(ClaviTuner x) {
    return x.count(8) + x.count(9);
  }

  private static void promise21Would() {
    for (int cents = -9; cents <= 9; cents += 3) {
      for (int days = 0; days <= 4; days += 2) {
        String list = list("" + cents, "day");
        ClaviTuner asked = Rig.taught(list);
        ClaviTuner done = Rig.taught(list);
        if (days > 0) {
          asked.pass(days);
          done.pass(days);
        }
        long before = asked.digest();
        int carried = done.run();
        int[] due = {done.count(8), done.count(9), done.wolf(), done.count(3), carried};
        for (int what = 0; what < 5; what++) {
          RIG.due("would(" + what + ") of " + list, asked.would(what), due[what]);
          RIG.due("digest() behind would(" + what + ")", asked.digest(), before);
        }
        RIG.due("run() behind would()", asked.run(), carried);
        RIG.due("digest() behind run()", asked.digest(), done.digest());
      }
    }
    ClaviTuner x = Rig.taught(FactsTest.LIST);
    // c 1304, d 1504, g 1900 and e 1590 then: d g 396 is the only third, and there is no fifth.
    int[] due = {0, 10, -1, 1, 3};
    for (int what = 0; what < 5; what++) {
      RIG.due("would(" + what + ")", x.would(what), due[what]);
    }
    RIG.due("never carried out", x.tune(0, 6), 0);
    ClaviTuner none = new ClaviTuner();
    int[] dueOfNone = {0, 0, -1, 0, 0};
    for (int what = 0; what < 5; what++) {
      RIG.due("would(" + what + ") of none", none.would(what), dueOfNone[what]);
    }
  }

  private static void promise21Refused() {
    for (ClaviTuner x : new ClaviTuner[] {new ClaviTuner(), Rig.taught(FactsTest.LIST)}) {
      for (int what : new int[] {-1, 5, Integer.MIN_VALUE, Integer.MAX_VALUE}) {
        RIG.refused("would(" + what + ")", x, IndexOutOfBoundsException.class, () -> x.would(what));
      }
    }
  }

  private static void promise22Without() {
    String list = list("2", "1");
    ClaviTuner asked = Rig.taught(list);
    long before = asked.digest();
    int different = 0;
    for (int tune = 0; tune < 7; tune++) {
      ClaviTuner done = Rig.taught(list);
      for (int i = 0; i < 7; i++) {
        if (i != tune) {
          done.carry(i);
        }
      }
      RIG.due("without(" + tune + ")", asked.without(tune), sour(done));
      RIG.due("digest() behind without(" + tune + ")", asked.digest(), before);
      different += asked.without(tune) != asked.would(0) + asked.would(1) ? 1 : 0;
    }
    RIG.due("tunes without which it is not the same, more than 3", different > 3 ? 1 : 0, 1);
    for (int tune : new int[] {-1, 7, Integer.MIN_VALUE, Integer.MAX_VALUE}) {
      RIG.refused("without(" + tune + ")", asked, IndexOutOfBoundsException.class, () -> asked.without(tune));
    }
    ClaviTuner none = new ClaviTuner();
    RIG.refused("without(0) of none", none, IndexOutOfBoundsException.class, () -> none.without(0));
  }

  private static void promise23Temper() {
    for (int days = 0; days <= 40; days += 8) {
      int best = -1;
      int least = Integer.MAX_VALUE;
      for (int cents = 0; cents <= 12; cents++) {
        ClaviTuner done = Rig.taught(list("" + cents, "0"));
        for (int i = 0; i < days; i += 8) {
          done.pass(8);
        }
        done.run();
        if (sour(done) < least) {
          least = sour(done);
          best = cents;
        }
      }
      for (String told : new String[] {"0", "77", "-5", "day*3"}) {
        ClaviTuner x = Rig.taught(list(told, told));
        for (int i = 0; i < days; i += 8) {
          x.pass(8);
        }
        long before = x.digest();
        RIG.due("temper() with " + told + " on the day " + days, x.temper(), best);
        RIG.due("digest() behind temper()", x.digest(), before);
      }
    }
  }

  /**
   * What temper() finds if c is tuned from a by a fifth, and would make pure a fifth from p and a
   * third from q, if it were less by so many cents.
   */
  private static int pulledTo(int cents) {
    String list =
        Rig.courses("a", 1000, 0, 6000, "p", 1000 - cents, 0, 6000, "c", 0, 0, 6000)
            + Rig.courses("q", 1702 - cents - 386, 0, 6000)
            + Rig.keys("a", "a", 0, "p", "p", 0, "q", "q", 0, "c", "c", 0)
            + "tune c from a fifth up less 50;";
    return Rig.taught(list).temper();
  }

  private static void promise23Edges() {
    RIG.due("temper() without tunes", Rig.taught(FactsTest.STRINGS).temper(), 0);
    RIG.due("temper() of nothing", new ClaviTuner().temper(), 0);
    // With n cents the fifth a c is n, the fifth c b 8 - n sour: up to 8 all are as sour.
    String even =
        Rig.courses("a", 1000, 0, 6000, "b", 1000 + 1404 - 8, 0, 6000, "c", 0, 0, 6000)
            + Rig.keys("a", "a", 0, "b", "b", 0, "c", "c", 0)
            + "tune c from a fifth up less 50;";
    RIG.due("temper() of several the least", Rig.taught(even).temper(), 0);
    RIG.due("temper() to 0", pulledTo(0), 0);
    RIG.due("temper() to 1", pulledTo(1), 1);
    RIG.due("temper() to 9", pulledTo(9), 9);
    RIG.due("temper() to 12", pulledTo(12), 12);
    RIG.due("temper() to 12 at most", pulledTo(19), 12);
    RIG.due("temper() to 0 at least", pulledTo(-5), 0);
  }

  /** Another object every 50 days, as one is used for no more than 512 calls. */
  private static int days(int damp, int a, int b, int interval, int cents) {
    ClaviTuner x = null;
    for (int day = 0; day <= 200; day++) {
      if (day % 50 == 0) {
        x = onTheDay(day, damp);
      }
      boolean silent = x.key(a, 2) < 0 || x.key(b, 2) < 0;
      if (silent || Math.abs(x.off(a, b, interval)) > cents) {
        return day;
      }
      x.pass(1);
    }
    return -1;
  }

  private static ClaviTuner onTheDay(int day, int damp) {
    ClaviTuner x = Rig.taught(list("2", "1"));
    x.setDamp(damp);
    for (int i = 0; i < day; i += 50) {
      x.pass(50);
    }
    return x;
  }

  private static void promise24Lasts() {
    int[][] asked = {
      {0, 1, 0, 2}, {0, 1, 0, 20}, {1, 0, 0, 200}, {0, 4, 2, 0}, {0, 4, 2, 30}, {4, 5, 0, 60},
      {2, 3, 0, 1}, {0, 2, 1, 200}, {3, 3, 2, 200}, {0, 6, 2, 200}, {1, 4, 3, 150}
    };
    for (int damp = -5; damp <= 5; damp++) {
      for (int[] q : asked) {
        ClaviTuner x = Rig.taught(list("2", "1"));
        x.setDamp(damp);
        long before = x.digest();
        int got = x.lasts(q[0], q[1], q[2], q[3]);
        String told = "lasts(" + q[0] + ", " + q[1] + ", " + q[2] + ", " + q[3] + ") with " + damp;
        RIG.due("digest() behind " + told, x.digest(), before);
        RIG.due(told, got, days(damp, q[0], q[1], q[2], q[3]));
      }
    }
  }

  private static void promise24Edges() {
    String strings =
        Rig.courses("a", 2000, 0, 6000, "b", 2702, 1, 6000, "c", 2000, 0, 2005, "d", 2702, 0, 2701)
            + Rig.keys("a", "a", 0, "b", "b", 0, "c", "c", 0, "d", "d", 0);
    ClaviTuner x = Rig.taught(strings);
    RIG.due("off by more behind 1 day", x.lasts(0, 1, 0, 0), 1);
    RIG.due("the same by the other side", x.lasts(1, 0, 0, 0), 1);
    RIG.due("off by more behind 200 days", x.lasts(0, 1, 0, 199), 200);
    RIG.due("off by more behind 201 days", x.lasts(0, 1, 0, 200), -1);
    RIG.due("never off by more", x.lasts(0, 2, 0, 200), 0);
    RIG.due("silent now", x.lasts(0, 3, 0, 200), 0);
    RIG.due("silent now, the other one", x.lasts(3, 0, 0, 200), 0);
    x.setDamp(1);
    RIG.due("silent behind 6 days", x.lasts(2, 1, 0, 200), 6);
    RIG.due("silent behind 6 days, the other one", x.lasts(1, 2, 0, 200), 6);
    RIG.due("not silent within 5 cents of now", x.lasts(1, 2, 0, 5), 6);
    RIG.due("off by more ahead of that", x.lasts(1, 2, 0, 4), 5);
    x.setDamp(0);
    x.turn(1, 10);
    RIG.due("nearer at first", x.lasts(0, 1, 0, 10), 21);
    RIG.due("off now", x.lasts(0, 1, 0, 9), 0);
    RIG.due("the day stays", x.count(0), 0);
    RIG.due("the pitch stays", x.course(1, 0), 2712);
    RIG.due("not broken", x.course(2, 3), 0);
    ClaviTuner still = Rig.taught(strings.replace("slack 1", "slack 0"));
    RIG.due("for ever", still.lasts(0, 1, 0, 0), -1);
  }

  private static void promise24Refused() {
    ClaviTuner x = Rig.taught(list("2", "1"));
    int[][] noIndex = {
      {-1, 0, 0, 0}, {9, 0, 0, 0}, {0, -1, 0, 0}, {0, 9, 0, 0}, {0, 1, -1, 0}, {0, 1, 4, 0},
      {9, 0, 0, 201}, {0, 9, 0, -1}, {0, 1, 4, 201}
    };
    for (int[] q : noIndex) {
      RIG.refused("lasts", x, IndexOutOfBoundsException.class, () -> x.lasts(q[0], q[1], q[2], q[3]));
    }
    for (int cents : new int[] {-1, 201, Integer.MIN_VALUE, Integer.MAX_VALUE}) {
      RIG.refused("lasts", x, IllegalArgumentException.class, () -> x.lasts(0, 1, 0, cents));
    }
    ClaviTuner none = new ClaviTuner();
    RIG.refused("lasts of none", none, IndexOutOfBoundsException.class, () -> none.lasts(0, 0, 0, 0));
  }

  private static void promise25Mean() {
    RIG.dueDouble("mean() without keys", Rig.taught("course a pitch 9 slack 1 holds 9;").mean(), 0.0);
    ClaviTuner x = Rig.taught(FactsTest.LIST);
    RIG.dueDouble("mean()", x.mean(), 1522.5);
    x.string(3, 5);
    RIG.dueDouble("mean() with x", x.mean(), 1221.0);
    x.turn(1, 1);
    RIG.dueDouble("mean() a bit sharper", x.mean(), 1221.2);
    ClaviTuner silent =
        Rig.taught("course a pitch 9 slack 1 holds 8;key a on a at 0;key b on a at 100;");
    RIG.dueDouble("mean() of silent keys", silent.mean(), 0.0);
    silent.string(0, 0);
    RIG.dueDouble("mean() of 0 and 100", silent.mean(), 50.0);
    ClaviTuner thirds = Rig.taught("course a pitch 1 slack 1 holds 8;key a on a at 0;key b on a at 0;key c on a at 1;");
    RIG.dueDouble("mean() of 1, 1 and 2", thirds.mean(), 4.0 / 3.0);
  }

  private static long digestOf(ClaviTuner x) {
    long d = 809;
    for (int what = 0; what <= 10; what++) {
      d = d * 31 + x.count(what);
    }
    for (int course = 0; course < x.count(2); course++) {
      for (int what = 0; what <= 4; what++) {
        d = d * 31 + x.course(course, what);
      }
    }
    for (int key = 0; key < x.count(4); key++) {
      for (int what = 0; what <= 6; what++) {
        d = d * 31 + x.key(key, what);
      }
    }
    for (int tune = 0; tune < x.count(5); tune++) {
      for (int what = 0; what <= 6; what++) {
        d = d * 31 + x.tune(tune, what);
      }
    }
    d = d * 31 + x.wolf();
    return d * 31 + x.sweetest();
  }

  private static void promise26Digest() {
    ClaviTuner x = new ClaviTuner();
    // 809 and eleven times 0, then -1 and -1.
    long empty = 809;
    for (int i = 0; i < 11; i++) {
      empty *= 31;
    }
    RIG.due("digest() of a new one", x.digest(), (empty * 31 - 1) * 31 - 1);
    Rig.feed(x, "course");
    RIG.due("digest() with a tape", x.digest(), digestOf(x));
    x.trim(0);
    Rig.teach(x, list("2", "day"));
    RIG.due("digest() with a list", x.digest(), digestOf(x));
    RIG.due("digest() again", x.digest(), digestOf(x));
    ClaviTuner later = onTheDay(50, 3);
    later.run();
    RIG.due("digest() later", later.digest(), digestOf(later));
  }
}
