/** Promises 6 to 9: count, course, key, tune, and what sums and tests come to. */
final class FactsTest {
  private static final Rig RIG = new Rig();

  static final String STRINGS =
      Rig.courses("c", 1200, 1, 2000, "g", 1900, 0, 2100, "e", 1590, 2, 1700, "x", 3000, 0, 2999)
          + Rig.keys("c", "c", 0, "d", "c", 200, "g", "g", 0, "e", "e", 0, "x", "x", 10);
  static final String LIST =
      STRINGS
          + "tune g from c fifth up less 2;"
          + "tune e from c third up less -4 when day > 0;"
          + "tune d from g fourth down;"
          + "tune x from c octave up less pitch x + 7;"
          + "tune c from e third down less 7*100;";

  public static void main(String[] args) {
    promise6Count();
    promise6Refused();
    promise7Course();
    promise8Key();
    promise9Tune();
    sums();
    tests();
    RIG.end();
  }

  private static void promise6Count() {
    ClaviTuner x = Rig.taught(LIST);
    int[] due = {0, 0, 4, 1, 5, 5, 2, 1, 4, 4, 0};
    for (int what = 0; what < due.length; what++) {
      RIG.due("count(" + what + ")", x.count(what), due[what]);
    }
    x.feed(0, 0, 0, 0, 0);
    x.setDamp(-3);
    x.string(3, 2999);
    x.pass(1);
    // Then c 1196, d 1396, g 1897, e 1585, x 3006. Fifths: c g 701, g d 699 (an octave lower);
    // thirds: c e 389, d x 410 (an octave higher).
    int[] later = {1, -3, 4, 0, 5, 5, 2, 2, 4, 27, 20};
    for (int what = 0; what < later.length; what++) {
      RIG.due("count(" + what + ") later", x.count(what), later[what]);
    }
  }

  private static void promise6Refused() {
    for (ClaviTuner x : new ClaviTuner[] {new ClaviTuner(), Rig.taught(LIST)}) {
      for (int what : new int[] {-1, 11, Integer.MIN_VALUE, Integer.MAX_VALUE}) {
        RIG.refused("count(" + what + ")", x, IndexOutOfBoundsException.class, () -> x.count(what));
      }
    }
  }

  private static void promise7Course() {
    ClaviTuner x = Rig.taught(LIST);
    int[][] due = {
      {1200, 1, 2000, 0, 2}, {1900, 0, 2100, 0, 1}, {1590, 2, 1700, 0, 1}, {3000, 0, 2999, 1, 1}
    };
    for (int course = 0; course < 4; course++) {
      for (int what = 0; what < 5; what++) {
        RIG.due("course(" + course + ", " + what + ")", x.course(course, what), due[course][what]);
      }
    }
    for (int[] a : new int[][] {{-1, 0}, {4, 0}, {0, -1}, {3, 5}, {Integer.MAX_VALUE, 0}, {0, Integer.MIN_VALUE}}) {
      RIG.refused("course(" + a[0] + ", " + a[1] + ")", x, IndexOutOfBoundsException.class, () -> x.course(a[0], a[1]));
    }
    ClaviTuner empty = new ClaviTuner();
    RIG.refused("course(0, 0) of none", empty, IndexOutOfBoundsException.class, () -> empty.course(0, 0));
    ClaviTuner full = Rig.taught("course a pitch 900 slack 0 holds 900;");
    RIG.due("as much as it holds", full.course(0, 3), 0);
    RIG.due("a course without keys", full.course(0, 4), 0);
    full.turn(0, 1);
    RIG.due("more than it holds", full.course(0, 3), 1);
    RIG.due("the pitch at which it broke", full.course(0, 0), 901);
    full.setDamp(-5);
    full.pass(3);
    RIG.due("it stays at the pitch at which it broke", full.course(0, 0), 901);
    RIG.due("it stays broken", full.course(0, 3), 1);
  }

  private static void promise8Key() {
    ClaviTuner x = Rig.taught(LIST);
    int[][] due = {
      {0, 0, 1200, 2, 2, 3, 4},
      {0, 200, 1400, -1, 0, -1, 0},
      {1, 0, 1900, 1, 2, -1, 0},
      {2, 0, 1590, -1, 0, -1, 0},
      {3, 10, -1, -1, 0, -1, 0}
    };
    for (int key = 0; key < 5; key++) {
      for (int what = 0; what < 7; what++) {
        RIG.due("key(" + key + ", " + what + ")", x.key(key, what), due[key][what]);
      }
    }
    for (int[] a : new int[][] {{-1, 0}, {5, 0}, {0, -1}, {4, 7}, {Integer.MIN_VALUE, 0}, {0, Integer.MAX_VALUE}}) {
      RIG.refused("key(" + a[0] + ", " + a[1] + ")", x, IndexOutOfBoundsException.class, () -> x.key(a[0], a[1]));
    }
    ClaviTuner empty = Rig.taught("course a pitch 1 slack 1 holds 1;");
    RIG.refused("key(0, 0) of none", empty, IndexOutOfBoundsException.class, () -> empty.key(0, 0));
  }

  private static void promise9Tune() {
    ClaviTuner x = Rig.taught(LIST);
    int[][] due = {
      {2, 0, 0, 1, 2, 1, 0},
      {3, 0, 2, 1, -4, 0, 0},
      {1, 2, 1, 0, 0, 1, 0},
      {4, 0, 3, 1, 7, 0, 0},
      {0, 3, 2, 0, 100, 1, 0}
    };
    for (int tune = 0; tune < 5; tune++) {
      for (int what = 0; what < 7; what++) {
        RIG.due("tune(" + tune + ", " + what + ")", x.tune(tune, what), due[tune][what]);
      }
    }
    for (int[] a : new int[][] {{-1, 0}, {5, 0}, {0, -1}, {4, 7}, {Integer.MIN_VALUE, 0}, {0, Integer.MAX_VALUE}}) {
      RIG.refused("tune(" + a[0] + ", " + a[1] + ")", x, IndexOutOfBoundsException.class, () -> x.tune(a[0], a[1]));
    }
    x.pass(1);
    RIG.due("its test holds on the day 1", x.tune(1, 5), 1);
    x.string(3, 90);
    RIG.due("it is not silent any more", x.tune(3, 5), 1);
    RIG.due("what is told behind less now", x.tune(3, 4), 100);
    x.turn(0, 600);
    x.turn(0, 600);
    RIG.due("c is silent", x.key(0, 2), -1);
    RIG.due("the key behind from is silent", x.tune(0, 5), 0);
    RIG.due("the key behind tune is silent", x.tune(4, 5), 0);
    RIG.due("what is told behind less all the same", x.tune(0, 4), 2);
    ClaviTuner empty = new ClaviTuner();
    RIG.refused("tune(0, 0) of none", empty, IndexOutOfBoundsException.class, () -> empty.tune(0, 0));
  }

  private static void sum(String sum, int due) {
    ClaviTuner x = Rig.taught(STRINGS + "tune g from c fifth up less " + sum + ";");
    x.pass(3);
    x.string(0, 1200);
    x.string(2, 1590);
    RIG.due(sum, x.tune(0, 4), due);
  }

  /** It is the day 3; c sounds at 1200, d at 1400, g at 1900, e at 1590, x is silent. */
  private static void sums() {
    sum("0", 0);
    sum("100", 100);
    sum("101", 100);
    sum("999999", 100);
    sum("-100", -100);
    sum("-101", -100);
    sum("2+3*4", 14);
    sum("2*3+4", 10);
    sum("(2+3)*4", 20);
    sum("10-4-3", 3);
    sum("10-(4-3)", 9);
    sum("90/5/2", 9);
    sum("90/(5/2)", 45);
    sum("7/2*2", 6);
    sum("7/2", 3);
    sum("-7/2", -3);
    sum("7/-2", -3);
    sum("(0-7)/2", -3);
    sum("(0-7)/-2", 3);
    sum("7/0", 0);
    sum("-7/(1-1)", 0);
    sum("0/0", 0);
    sum("- -5", 5);
    sum("3 - -5", 8);
    sum("-2*-3", 6);
    sum("-(2+3)", -5);
    sum("-2+3", 1);
    sum("min(3,4)", 3);
    sum("min(4,3)", 3);
    sum("max(3,4)", 4);
    sum("max(-4,-3)", -3);
    sum("min(-4,max(1,2))", -4);
    sum("day", 3);
    sum("day*day-day", 6);
    sum("pitch c-1150", 50);
    sum("pitch d-1350", 50);
    sum("pitch x", 0);
    sum("pitch x + 5", 5);
    sum("gap c g-690", 10);
    sum("gap g c+690", -10);
    sum("gap d e-gap c e", -100);
    sum("gap d e-gap c e+150", -50);
    sum("gap c c", 0);
    sum("gap c x", 0);
    sum("gap x c", 0);
    sum("gap x x", 0);
    sum("999999*999999", -100);
    sum("999999*999999/999999/10", -72);
    sum("65536*65536", 0);
    sum("(65536*32767+65535)/999999/30", 71);
    sum("(65536*32767+65535+1)/999999/30", -71);
    sum("(-65536*32768-1)/999999/30", 71);
    sum("-65536*32768/-1/999999/30", -71);
    sum("-(-65536*32768)/999999/30", -71);
    sum("min(65536*32768,1)/999999/30", -71);
  }

  private static void test(String test, int due) {
    ClaviTuner x = Rig.taught(STRINGS + "tune g from c fifth up when " + test + ";");
    x.setDamp(1);
    x.pass(1);
    RIG.due(test, x.tune(0, 5), due);
  }

  /** It is the day 1; only x is broken, c sounds at 1200, g at 1901. */
  private static void tests() {
    String[] relations = {"<", "=", ">", "<=", ">="};
    int[][] due = {{1, 0, 0}, {0, 1, 0}, {0, 0, 1}, {1, 1, 0}, {0, 1, 1}};
    for (int i = 0; i < relations.length; i++) {
      test("-1" + relations[i] + "0", due[i][0]);
      test("5" + relations[i] + "5", due[i][1]);
      test("10" + relations[i] + "9", due[i][2]);
      test("65536*32768" + relations[i] + "0", due[i][0]);
    }
    ClaviTuner first = Rig.taught(LIST + "tune g from e third up when broken c;");
    RIG.due("broken c, c is not", first.tune(5, 5), 0);
    first.turn(0, 600);
    first.turn(0, 600);
    RIG.due("broken c, c is", first.tune(5, 5), 1);
    test("broken x", 1);
    test("broken c", 0);
    test("not broken x", 0);
    test("not broken c", 1);
    test("not not broken x", 1);
    test("1=1 and 2=2", 1);
    test("1=1 and 1=2", 0);
    test("1=2 and 1=1", 0);
    test("1=2 or 1=3", 0);
    test("1=2 or 1=1", 1);
    test("1=1 or 1=2", 1);
    test("1=1 or 1=1 and 1=2", 1);
    test("1=2 and 1=1 or 1=1", 1);
    test("[1=1 or 1=1] and 1=2", 0);
    test("1=2 and [1=1 or 1=1]", 0);
    test("not 1=2 and 1=2", 0);
    test("not [1=2 and 1=2]", 1);
    test("not 1=1 or 1=1", 1);
    test("not [1=1 or 1=1]", 0);
    test("1=1 and not broken c and day=1", 1);
    test("day>1 or day<1 or pitch x=0", 1);
    test("pitch c=1200", 1);
    test("gap c g=701", 1);
    test("gap x g<0", 0);
    test("1+1=2", 1);
    test("2=1+1 and 2*2=8/2", 1);
  }
}
