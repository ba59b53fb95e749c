import java.math.BigInteger;

/**
 * Wrap-arounds, division, remainders and the checksum; the sentence of the document that is tested
 * stands above its test. The machine's own int is not asked: what is due is told in full.
 */
final class WrapAroundTest {
  private static final Rig RIG = new Rig();
  /** 2147483647 and -2147483648, by numbers of at most 6 digits that do not wrap on the way. */
  private static final String MOST = "(65536*32767+65535)";
  private static final String LEAST = "(-65536*32767-65536)";

  private static final String STRINGS =
      Rig.courses("a", 1000, 1, 6000, "b", 1702, 0, 6000, "x", 9, 0, 8)
          + Rig.keys("k", "a", 0, "l", "b", 0, "s", "x", 0);

  public static void main(String[] args) {
    sumsWrap();
    differencesWrap();
    productsWrap();
    whatIsTurnedWraps();
    relationsDoNotWrap();
    wrappedBehindLess();
    cutTowardsZero();
    byZero();
    leastByMinusOne();
    remainders();
    octaves();
    checksum();
    bytesOfNegatives();
    RIG.end();
  }

  /** Tells whether a test holds, by the tune that has it. */
  private static void test(String test, boolean due) {
    ClaviTuner x = Rig.taught(STRINGS + "tune k from l fifth up when " + test + ";");
    RIG.due(test, x.tune(0, 5), due ? 1 : 0);
    RIG.due("carry when " + test, x.carry(0) ? 1 : 0, due ? 1 : 0);
    ClaviTuner not = Rig.taught(STRINGS + "tune k from l fifth up when not " + test + ";");
    RIG.due("not " + test, not.tune(0, 5), due ? 0 : 1);
  }

  private static void same(String sum, String due) {
    test(sum + " = " + due, true);
    test(sum + " - " + due + " = 0", true);
    test(sum + " < " + due, false);
    test(sum + " > " + due, false);
    test(sum + " <= " + due, true);
    test(sum + " >= " + due, true);
  }

  /** Behind less, where it is held at -100 to 100. */
  private static void less(String sum, int due) {
    ClaviTuner x = Rig.taught(STRINGS + "tune k from l fifth up less " + sum + ";");
    RIG.due("less " + sum, x.tune(0, 4), due);
  }

  /** "sums ... of the language wrap around in 32 bits" */
  private static void sumsWrap() {
    test(MOST + " > 0", true);
    test(LEAST + " < 0", true);
    same(MOST + "+0", MOST);
    same(MOST + "+1", LEAST);
    same(MOST + "+2", "(" + LEAST + "+1)");
    test(MOST + "+1 < 0", true);
    same(MOST + "+" + MOST, "-2");
    same(LEAST + "+" + LEAST, "0");
    same(LEAST + "+-1", MOST);
    same(LEAST + "+" + MOST, "-1");
    same(MOST + "+1-1", MOST);
  }

  /** "differences ... wrap around in 32 bits" */
  private static void differencesWrap() {
    same(LEAST + "-0", LEAST);
    same(LEAST + "-1", MOST);
    test(LEAST + "-1 > 0", true);
    same(MOST + "- -1", LEAST);
    same("0-" + MOST, "(" + LEAST + "+1)");
    same("0-" + LEAST, LEAST);
    same("-1-" + LEAST, MOST);
    same(LEAST + "-" + MOST, "1");
    same(MOST + "-" + LEAST, "-1");
  }

  /** "products of the language wrap around in 32 bits" */
  private static void productsWrap() {
    same("65536*32768", LEAST);
    same("65536*-32768", LEAST);
    same("65536*65536", "0");
    same("65536*65536*7", "0");
    same("65537*65537", "131073");
    same("46340*46340", "(214739*10000+5600)");
    same("46341*46341", "(" + LEAST + "+4633)");
    same("999999*999999", "(-72937*10000-9967)");
    same(MOST + "*2", "-2");
    same(MOST + "*" + MOST, "1");
    same(LEAST + "*2", "0");
    same(LEAST + "*-1", LEAST);
    same("-1*" + LEAST, LEAST);
    same(LEAST + "*" + LEAST, "0");
    same(LEAST + "*3", LEAST);
  }

  private static void whatIsTurnedWraps() {
    same("-" + MOST, "(" + LEAST + "+1)");
    same("-" + LEAST, LEAST);
    same("--" + LEAST, LEAST);
    same("max(" + LEAST + "-1,0)", MOST);
    same("min(" + MOST + "+1,0)", LEAST);
    same("min(" + LEAST + "," + MOST + ")", LEAST);
    same("max(" + LEAST + "," + MOST + ")", MOST);
  }

  /** Only sums, differences and products wrap around: no relation does by its difference. */
  private static void relationsDoNotWrap() {
    test(MOST + " > " + LEAST, true);
    test(MOST + " > -1", true);
    test(MOST + " < -1", false);
    test(LEAST + " < 1", true);
    test(LEAST + " > 1", false);
    test(LEAST + " <= " + MOST, true);
    test(LEAST + " >= " + MOST, false);
    test("65536*65536 = 0", true);
    test("65536*32768 = 0", false);
  }

  /** What is held at -100 to 100 is the sum as it has wrapped around. */
  private static void wrappedBehindLess() {
    less(MOST, 100);
    less(MOST + "+1", -100);
    less(LEAST, -100);
    less(LEAST + "-1", 100);
    less("-" + LEAST, -100);
    less("65536*65536", 0);
    less("65536*65536+37", 37);
    less("65536*65536-37", -37);
    less("999999*999999", -100);
    ClaviTuner x = Rig.taught(STRINGS + "tune k from l fifth up less 65536*32768;");
    x.run();
    RIG.due("k, tuned by less than the least", x.key(0, 2), 1702 + 702 + 100);
  }

  /** "/ is cut towards 0" */
  private static void cutTowardsZero() {
    int[][] due = {
      {7, 2, 3}, {-7, 2, -3}, {7, -2, -3}, {-7, -2, 3}, {1, 2, 0}, {-1, 2, 0}, {1, -2, 0}, {-1, -2, 0},
      {99, 100, 0}, {-99, 100, 0}, {-100, 100, -1}, {-101, 100, -1}, {-199, 100, -1}, {0, 5, 0}, {0, -5, 0},
      {6, 3, 2}, {-6, 3, -2}
    };
    for (int[] d : due) {
      less(d[0] + "/" + d[1], d[2]);
      less("(" + d[0] + ")/(" + d[1] + ")", d[2]);
    }
    same(MOST + "/2", "(32768*32767+32767)");
    same(LEAST + "/2", "(-32768*32768)");
    same(LEAST + "/" + MOST, "-1");
    same(MOST + "/" + LEAST, "0");
    same(LEAST + "/" + LEAST, "1");
    same(LEAST + "/1", LEAST);
    same(MOST + "/-1", "(" + LEAST + "+1)");
  }

  /** "gives 0 with 0 on the right side" */
  private static void byZero() {
    for (String zero : new String[] {"0", "000", "(1-1)", "day", "-0", "0*7", "pitch s", "gap k s", "gap s k", "gap l l", "65536*65536"}) {
      String right = zero.contains("*") ? "(" + zero + ")" : zero;
      for (String left : new String[] {"0", "7", "-7", MOST, LEAST, "pitch k"}) {
        less(left + "/" + right, 0);
        less("5+" + left + "/" + right, 5);
        test(left + "/" + right + " = 0", true);
      }
    }
    less("0/7", 0);
    less("9/0*5+3", 3);
    // The day is 0 at first, and no more on the next one.
    ClaviTuner x = Rig.taught(STRINGS + "tune l from k fifth up less 7/day;");
    RIG.due("7/day on the day 0", x.tune(0, 4), 0);
    RIG.due("carried out on the day 0", x.carry(0) ? 1 : 0, 1);
    RIG.due("l", x.key(1, 2), 1702);
    x.pass(1);
    RIG.due("7/day on the day 1", x.tune(0, 4), 7);
  }

  /** "and -2147483648 / -1 gives -2147483648" */
  private static void leastByMinusOne() {
    same(LEAST + "/-1", LEAST);
    same("65536*32768/-1", LEAST);
    same(LEAST + "/(0-1)", LEAST);
    same("(" + LEAST + "+1)/-1", MOST);
    test(LEAST + "/-1 < 0", true);
    less(LEAST + "/-1", -100);
    less("(" + LEAST + "+1)/-1", 100);
    less(LEAST + "/-1/-1", -100);
    less(LEAST + "/-1+" + LEAST, 0);
  }

  /** "whose pitch less its own, by the remainder of 1200 (0 to 1199, also of less than 0)" */
  private static void remainders() {
    // The fifth of the key at 3000: 702 higher, and whole octaves away from that.
    for (int other : new int[] {102, 1302, 2502, 3702, 4902}) {
      for (int sour = -60; sour <= 60; sour += 20) {
        ClaviTuner x = two(3000, other + sour);
        RIG.due("fifth of 3000 at " + (other + sour), x.key(0, 3), 1);
        RIG.due("how sour", x.key(0, 4), Math.abs(sour));
      }
      RIG.due("no fifth, too low", two(3000, other - 61).key(0, 3), -1);
      RIG.due("no fifth, too high", two(3000, other + 61).key(0, 3), -1);
    }
    for (int other : new int[] {986, 2186, 3386, 4586}) {
      for (int sour = -60; sour <= 60; sour += 20) {
        ClaviTuner x = two(3000, other + sour);
        RIG.due("third of 3000 at " + (other + sour), x.key(0, 5), 1);
        RIG.due("how sour", x.key(0, 6), Math.abs(sour));
      }
      RIG.due("no third, too low", two(3000, other - 61).key(0, 5), -1);
      RIG.due("no third, too high", two(3000, other + 61).key(0, 5), -1);
    }
    for (int other : new int[] {600, 1800, 3000, 4200, 4199, 4201, 1799, 1801}) {
      RIG.due("no fifth at " + other, two(3000, other).key(0, 3), -1);
      RIG.due("no third at " + other, two(3000, other).key(0, 5), -1);
    }
    // -4098 is 702 above four octaves down, -4414 is 386 above them.
    RIG.due("the fifth of a high key, the lowest one", two(4098, 0).key(0, 3), 1);
    RIG.due("how sour", two(4098, 0).key(0, 4), 0);
    RIG.due("the third of a high key, the lowest one", two(4414, 0).key(0, 5), 1);
    RIG.due("how sour", two(4414, 0).key(0, 6), 0);
  }

  private static ClaviTuner two(int first, int second) {
    ClaviTuner x =
        Rig.taught(Rig.courses("a", 0, 0, 6000, "b", 0, 0, 6000) + Rig.keys("k", "a", 0, "l", "b", 0));
    x.string(0, first);
    x.string(1, second);
    return x;
  }

  /** "let o be p / 1200, r the remainder": the last cent of an octave, and the first one */
  private static void octaves() {
    // 1199: 1888 + 112 * 99 / 100 = 1998; an octave off itself beats by 1200 * 1998 / 2000.
    int[][] due = {
      {0, 1000}, {1, 1000}, {99, 1058}, {100, 1059}, {1099, 1886}, {1100, 1888}, {1199, 1998}, {1200, 2000},
      {1201, 2000}, {1299, 2116}, {1300, 2118}, {2399, 3996}, {2400, 4000}, {4799, 15984}, {4800, 16000},
      {5999, 31968}, {6000, 32000}
    };
    ClaviTuner x = two(0, 0);
    for (int[] d : due) {
      x.string(0, d[0]);
      RIG.due("beats of " + d[0] + " with itself", x.beats(0, 0, 3), 1200 * d[1] / 2000);
      RIG.due("beats of " + d[0] + " by a fifth", x.beats(0, 0, 0), 702 * d[1] / 2000);
    }
  }

  private static BigInteger next(BigInteger d, long x) {
    return d.multiply(BigInteger.valueOf(31)).add(BigInteger.valueOf(x));
  }

  /** What digest() has to come to, reckoned without any bound and cut to 64 bits at the end. */
  private static long digestOf(ClaviTuner x) {
    BigInteger d = BigInteger.valueOf(809);
    for (int what = 0; what <= 10; what++) {
      d = next(d, x.count(what));
    }
    int courses = x.count(2);
    for (int i = 0; i < 5 * courses; i++) {
      d = next(d, x.course(i / 5, i % 5));
    }
    int keys = x.count(4);
    for (int i = 0; i < 7 * keys; i++) {
      d = next(d, x.key(i / 7, i % 7));
    }
    int tunes = x.count(5);
    for (int i = 0; i < 7 * tunes; i++) {
      d = next(d, x.tune(i / 7, i % 7));
    }
    return next(next(d, x.wolf()), x.sweetest()).longValue();
  }

  /** "which wraps around as a 64-bit integer" */
  private static void checksum() {
    ClaviTuner empty = new ClaviTuner();
    RIG.due("digest() of a new object", empty.digest(), -2667948309890324649L);
    RIG.due("digest() of a new object, reckoned", empty.digest(), digestOf(empty));
    ClaviTuner damp = new ClaviTuner();
    damp.setDamp(-5);
    damp.pass(120);
    damp.feed(-1, -1, -1, -1, -1);
    RIG.due("digest() with numbers less than 0", damp.digest(), digestOf(damp));
    ClaviTuner three = Rig.taught(STRINGS + "tune k from l fifth up less 999999*999999;");
    RIG.due("digest() with what is silent", three.digest(), digestOf(three));
    ClaviTuner full = Rig.taught(Lists.full());
    RIG.due("digest() of a full list", full.digest(), digestOf(full));
    ClaviTuner later = Rig.taught(Lists.full());
    later.setDamp(-3);
    later.pass(9);
    later.run();
    RIG.due("digest() of a full list later", later.digest(), digestOf(later));
  }

  /** "the four bytes of each number, the highest one first": the numbers less than 0, too */
  private static void bytesOfNegatives() {
    int[][] fed = {
      {-1, 0}, {Integer.MIN_VALUE, 0}, {0x20ffffff, 1}, {0x2020ff20, 2}, {0x202020ff, 3}, {0x20208020, 2},
      {0x0a0a0a80, 3}
    };
    for (int[] f : fed) {
      for (int place = 0; place < 5; place++) {
        int[] n = {0x20202020, 0x0a0a0a0a, 0x20202020, 0x20202020, 0x0a0a0a0a};
        n[place] = f[0];
        ClaviTuner x = new ClaviTuner();
        RIG.due("feed", x.feed(n[0], n[1], n[2], n[3], n[4]), 20);
        RIG.due("teach() of " + f[0] + " behind " + place, x.teach(), 1);
        RIG.due("errorAt() of " + f[0] + " behind " + place, x.errorAt(), 4 * place + f[1]);
      }
    }
  }
}
