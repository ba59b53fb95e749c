/** Promises 16 to 20: off, beats, wolf, triad, sweetest, and fifths and thirds. */
final class SoundTest {
  private static final Rig RIG = new Rig();

  public static void main(String[] args) {
    promise16Off();
    promise17Beats();
    promise17Speeds();
    intervalsReferred();
    fifthsAndThirds();
    severalAsNear();
    promise18Wolf();
    promise19Triad();
    promise20Sweetest();
    RIG.end();
  }

  /** As many courses, each with a key of this pitch, named k0, k1 and so on. */
  private static ClaviTuner at(int... pitches) {
    StringBuilder s = new StringBuilder();
    for (int i = 0; i < pitches.length; i++) {
      s.append(Rig.courses("c" + i, Math.min(pitches[i], 4800), 0, 6000));
      s.append(Rig.keys("k" + i, "c" + i, 0));
    }
    ClaviTuner x = Rig.taught(s.toString());
    for (int i = 0; i < pitches.length; i++) {
      x.string(i, pitches[i]);
    }
    return x;
  }

  private static void promise16Off() {
    ClaviTuner x = Rig.taught(FactsTest.LIST);
    RIG.due("off(0, 2, 0)", x.off(0, 2, 0), -2);
    RIG.due("off(2, 0, 0)", x.off(2, 0, 0), -2);
    RIG.due("off(0, 2, 1)", x.off(0, 2, 1), 202);
    RIG.due("off(0, 3, 2)", x.off(0, 3, 2), 4);
    RIG.due("off(3, 0, 3)", x.off(3, 0, 3), -810);
    RIG.due("off(0, 1, 1)", x.off(0, 1, 1), -298);
    RIG.due("off(1, 1, 2)", x.off(1, 1, 2), -386);
    RIG.due("off(0, 4, 0) with a silent one", x.off(0, 4, 0), 0);
    RIG.due("off(4, 0, 3) with a silent one", x.off(4, 0, 3), 0);
    RIG.due("off(4, 4, 1) with silent ones", x.off(4, 4, 1), 0);
    RIG.due("off over octaves", at(0, 5000).off(0, 1, 3), 3800);
    x.turn(0, -7);
    RIG.due("off(0, 2, 0) later", x.off(0, 2, 0), 5);
  }

  private static void promise17Beats() {
    ClaviTuner x = Rig.taught(FactsTest.LIST);
    // The lower one is 1200 and goes 2000 fast: as many beats as cents.
    RIG.due("beats(0, 2, 0)", x.beats(0, 2, 0), 2);
    RIG.due("beats(2, 0, 0)", x.beats(2, 0, 0), 2);
    RIG.due("beats(0, 2, 1)", x.beats(0, 2, 1), 202);
    RIG.due("beats(0, 3, 2)", x.beats(0, 3, 2), 4);
    // 1400 goes 2244 fast: 310 * 2244 / 2000, whichever is told first.
    RIG.due("beats(1, 3, 1)", x.beats(1, 3, 1), 345);
    RIG.due("beats(3, 1, 1)", x.beats(3, 1, 1), 345);
    RIG.due("beats(0, 4, 0) with a silent one", x.beats(0, 4, 0), 0);
    RIG.due("beats(4, 0, 0) with a silent one", x.beats(4, 0, 0), 0);
    RIG.due("beats(4, 4, 3) with silent ones", x.beats(4, 4, 3), 0);
    ClaviTuner far = at(6000, 0);
    RIG.due("beats far apart", far.beats(0, 1, 2), 5614 / 2);
    RIG.due("beats of the highest with itself", far.beats(0, 0, 3), 1200 * 32000 / 2000);
  }

  private static void promise17Speeds() {
    // 1200 * speed / 2000, of a key an octave off itself, every 100 cents and half way between.
    int[] full = {600, 635, 673, 713, 756, 801, 848, 898, 952, 1009, 1069, 1132};
    int[] half = {617, 654, 693, 734, 778, 824, 873, 925, 980, 1039, 1101, 1166};
    ClaviTuner x = at(0);
    for (int i = 0; i < 12; i++) {
      x.string(0, 100 * i);
      RIG.due("beats at " + 100 * i, x.beats(0, 0, 3), full[i]);
      x.string(0, 100 * i + 50);
      RIG.due("beats at " + (100 * i + 50), x.beats(0, 0, 3), half[i]);
    }
    // Four octaves higher an error of the table by 1 shows.
    int[] speeds = {
      1000, 1059, 1122, 1189, 1260, 1335, 1414, 1498, 1587, 1682, 1782, 1888, 2000
    };
    for (int i = 0; i <= 12; i++) {
      x.string(0, 4800 + 100 * i);
      RIG.due("beats at " + (4800 + 100 * i), x.beats(0, 0, 3), speeds[i] * 16 * 12 / 20);
    }
    int[][] others = {
      {1, 600}, {699, 898}, {1199, 1198}, {1200, 1200}, {1201, 1200}, {2400, 2400}, {3650, 4939},
      {4799, 9590}, {6000, 19200}, {5999, 19180}
    };
    for (int[] o : others) {
      x.string(0, o[0]);
      RIG.due("beats at " + o[0], x.beats(0, 0, 3), o[1]);
    }
  }

  private static void intervalsReferred() {
    ClaviTuner x = Rig.taught(FactsTest.LIST);
    int[][] wrong = {
      {-1, 0, 0}, {5, 0, 0}, {0, -1, 0}, {0, 5, 0}, {0, 0, -1}, {0, 0, 4}, {4, 4, 4},
      {Integer.MIN_VALUE, 0, 0}, {0, Integer.MAX_VALUE, 0}, {0, 0, Integer.MIN_VALUE}
    };
    for (int[] w : wrong) {
      String told = "(" + w[0] + ", " + w[1] + ", " + w[2] + ")";
      RIG.refused("off" + told, x, IndexOutOfBoundsException.class, () -> x.off(w[0], w[1], w[2]));
      RIG.refused("beats" + told, x, IndexOutOfBoundsException.class, () -> x.beats(w[0], w[1], w[2]));
    }
    for (int key : new int[] {-1, 5, Integer.MIN_VALUE, Integer.MAX_VALUE}) {
      RIG.refused("triad(" + key + ")", x, IndexOutOfBoundsException.class, () -> x.triad(key));
    }
    ClaviTuner none = new ClaviTuner();
    RIG.refused("off of none", none, IndexOutOfBoundsException.class, () -> none.off(0, 0, 0));
    RIG.refused("beats of none", none, IndexOutOfBoundsException.class, () -> none.beats(0, 0, 0));
    RIG.refused("triad of none", none, IndexOutOfBoundsException.class, () -> none.triad(0));
  }

  /** What key() tells of the interval of the key 0, with the key 1 by so much higher. */
  private static void near(int what, int gap, int sour) {
    for (int octave = -2; octave <= 2; octave++) {
      int other = 2400 + gap + 1200 * octave;
      ClaviTuner x = at(2400, other);
      String told = "key(0, " + what + ") with " + other;
      RIG.due(told, x.key(0, what), sour < 0 ? -1 : 1);
      RIG.due(told + ", sour", x.key(0, what + 1), Math.max(sour, 0));
    }
  }

  private static void fifthsAndThirds() {
    int[][] due = {{0, 0}, {60, 60}, {61, -1}, {-60, 60}, {-61, -1}, {1, 1}, {-37, 37}};
    for (int[] d : due) {
      near(3, 702 + d[0], d[1]);
      near(5, 386 + d[0], d[1]);
    }
    ClaviTuner alone = at(700);
    RIG.due("no fifth alone", alone.key(0, 3), -1);
    RIG.due("no third alone", alone.key(0, 5), -1);
    ClaviTuner x =
        Rig.taught(
            Rig.courses("a", 0, 0, 6000, "b", 702, 0, 6000, "c", 386, 0, 6000)
                + Rig.keys("k", "a", 0, "l", "b", 0, "m", "c", 0, "n", "b", 9, "o", "c", 9));
    RIG.due("fifth", x.key(0, 3), 1);
    RIG.due("third", x.key(0, 5), 2);
    x.turn(1, -5);
    x.turn(2, -6);
    RIG.due("the nearer fifth", x.key(0, 3), 3);
    RIG.due("sour", x.key(0, 4), 4);
    RIG.due("the nearer third", x.key(0, 5), 4);
    RIG.due("sour", x.key(0, 6), 3);
    x.string(1, 6000);
    x.turn(1, 1);
    RIG.due("no fifth that is silent", x.key(0, 3), -1);
    RIG.due("no fifth of a silent one", x.key(1, 3), -1);
    RIG.due("nor sour", x.key(0, 4), 0);
    RIG.due("keys with a fifth", x.count(6), 0);
  }

  private static void severalAsNear() {
    ClaviTuner x = at(0, 712, 692, 396, 376, 1892);
    RIG.due("fifth, as near, with the smallest number", x.key(0, 3), 1);
    RIG.due("third, as near, with the smallest number", x.key(0, 5), 3);
    x.turn(1, 1);
    RIG.due("the fifth that is nearer", x.key(0, 3), 2);
    x.turn(3, 1);
    RIG.due("the third that is nearer", x.key(0, 5), 4);
    x.turn(2, -1);
    RIG.due("the fifth an octave higher", x.key(0, 3), 5);
  }

  private static void promise18Wolf() {
    RIG.due("wolf() without a fifth", at(0, 100, 200).wolf(), -1);
    RIG.due("wolf() without keys", Rig.taught("course a pitch 1 slack 1 holds 1;").wolf(), -1);
    RIG.due("wolf() of a pure one", at(800, 0, 702).wolf(), 1);
    // 0 702 1404 2106: fifths of 0, 1 and 2; then 1 is sourer, then 0 and 1 as sour.
    ClaviTuner x = at(0, 702, 1404, 2106);
    RIG.due("wolf() of pure ones", x.wolf(), 0);
    x.turn(3, 5);
    RIG.due("wolf()", x.wolf(), 2);
    x.turn(0, -5);
    RIG.due("wolf() of several", x.wolf(), 2);
    x.string(0, 5);
    RIG.due("wolf() of several", x.wolf(), 0);
    x.turn(1, -60);
    RIG.due("wolf(), with 65 no fifth", x.wolf(), 1);
    x.turn(1, 5);
    RIG.due("wolf() of 60 and 55", x.wolf(), 0);
  }

  private static void promise19Triad() {
    ClaviTuner x = at(0, 702 + 7, 386 - 4, 4500);
    RIG.due("triad(0)", x.triad(0), 11);
    RIG.due("triad(1)", x.triad(1), -1);
    RIG.due("triad(2)", x.triad(2), -1);
    RIG.due("a pure triad", at(0, 702, 386).triad(0), 0);
    RIG.due("a fifth without a third", at(0, 702).triad(0), -1);
    RIG.due("a third without a fifth", at(0, 386).triad(0), -1);
    RIG.due("the sourest triad", at(0, 762, 326).triad(0), 120);
    ClaviTuner silent = Rig.taught(FactsTest.LIST);
    RIG.due("triad of c", silent.triad(0), 6);
    RIG.due("triad of a silent one", silent.triad(4), -1);
  }

  private static void promise20Sweetest() {
    RIG.due("sweetest() without a triad", at(0, 702, 1404).sweetest(), -1);
    RIG.due("sweetest() without keys", new ClaviTuner().sweetest(), -1);
    RIG.due("the sourest triad is one", at(0, 762, 326).sweetest(), 0);
    // Two triads: 0 with 702 and 386, 100 with 802 and 486.
    ClaviTuner x = at(702, 386, 0, 802, 486, 100);
    RIG.due("sweetest() of several", x.sweetest(), 2);
    x.turn(0, 3);
    RIG.due("sweetest(), the other one", x.sweetest(), 5);
    x.turn(4, -3);
    RIG.due("sweetest() of several", x.sweetest(), 2);
    x.turn(3, 1);
    RIG.due("sweetest()", x.sweetest(), 2);
    RIG.due("its triad", x.triad(2), 3);
    RIG.due("the other triad", x.triad(5), 4);
  }
}
