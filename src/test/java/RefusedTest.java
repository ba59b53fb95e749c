/**
 * What is refused: exceptions and their order, lists with errors, tunes that are not carried out,
 * broken courses and silent keys; the sentence of the document that is tested stands above its
 * test.
 */
final class RefusedTest {
  private static final Rig RIG = new Rig();
  private static final Class<?> NO_INDEX = IndexOutOfBoundsException.class;
  private static final Class<?> NO_ARGUMENT = IllegalArgumentException.class;
  private static final Class<?> NO_STATE = IllegalStateException.class;

  /** Room for a 9th course, a double name and all other errors; keys on three of the courses. */
  private static final String FULL_COURSES =
      Lists.eightCourses() + Rig.keys("k0", "c0", 0, "k1", "c1", 0, "k2", "c2", 0, "k3", "c0", 9);

  /** By its error's number: a line that has it, and nothing ahead of it. */
  private static final String[] WRONG_LINES = {
    "", "", "key @k0 on c0 at 0;", "key y on @q at 0;", "course @z pitch 0 slack 0 holds 0;",
    "key z on c0 at @601;", "tune k0 from @k3 fifth up;"
  };

  /** b and c are broken at first; the keys l and m are on b, n is on c. */
  private static final String BROKEN_ONES =
      Rig.courses("a", 1000, 1, 6000, "b", 1703, 2, 1702, "c", 1390, 3, 1389, "d", 1710, 0, 6000)
          + Rig.courses("e", 1380, 0, 6000)
          + Rig.keys("k", "a", 0, "l", "b", 0, "m", "b", 5, "n", "c", 0, "o", "d", 0, "p", "e", 0);

  public static void main(String[] args) {
    feedToAFullTape();
    turnOfABrokenCourse();
    orderOfTurn();
    orderOfString();
    orderOfLasts();
    nothingIsToldYet();
    nothingIsToldAnyMore();
    everyErrorLeavesAll();
    errorsOneBehindTheOther();
    wrongListsTellNothing();
    firstOfTwoErrors();
    errorOneAheadOfAll();
    firstOfTwoInALine();
    firstOfTwoInATune();
    severalAtOneToken();
    namesOfTheRightSort();
    notToldAtAll();
    errorAtUntilTheNextTeach();
    notCarriedOut();
    notCarriedOutInARun();
    silentInSums();
    silentKeysAreAsked();
    brokenCoursesAreAsked();
    brokenCoursesStayAsTheyAre();
    silentKeysAreNoFifths();
    newStringsSound();
    silentInTheEnd();
    RIG.end();
  }

  /** All that a call could change: a course is broken, tunes were carried out, days went by. */
  private static ClaviTuner used() {
    ClaviTuner x = Rig.taught(Lists.full());
    x.setDamp(-2);
    x.pass(4);
    x.carry(0);
    for (int i = 0; i < 6; i++) {
      x.turn(6, 600);
    }
    return x;
  }

  private static ClaviTuner usedWithAFullTape() {
    ClaviTuner x = used();
    Rig.feed(x, Lists.padded(Lists.full(), 2000));
    return x;
  }

  private static ClaviTuner usedWithMuchTape() {
    ClaviTuner x = usedWithAFullTape();
    x.trim(1981);
    return x;
  }

  private static ClaviTuner usedWithATape() {
    ClaviTuner x = used();
    Rig.feed(x, Lists.TWO);
    return x;
  }

  /** "if there would be more than 2000"; "A method that throws an exception changes nothing." */
  private static void feedToAFullTape() {
    for (int n : new int[] {0, -1, 0x20202020}) {
      RIG.refusedForGood("feed", RefusedTest::usedWithAFullTape, NO_STATE, x -> x.feed(n, n, n, n, n));
      RIG.refusedForGood("feed", RefusedTest::usedWithMuchTape, NO_STATE, x -> x.feed(n, n, n, n, n));
    }
  }

  /** "if it is broken"; "A method that throws an exception changes nothing." */
  private static void turnOfABrokenCourse() {
    RIG.due("broken ones", used().count(3), 1);
    for (int cents : new int[] {-600, -1, 0, 1, 600}) {
      String told = "turn of a broken course by " + cents;
      RIG.refusedForGood(told, RefusedTest::usedWithATape, NO_STATE, x -> x.turn(6, cents));
    }
    ClaviTuner x = Rig.taught(Rig.courses("a", 9, 0, 8, "b", 8, 0, 8));
    RIG.refused("turn of what broke at first", x, NO_STATE, () -> x.turn(0, 0));
    RIG.due("turn of what is at what it holds", x.turn(1, 0), 8);
    RIG.due("turn by which it breaks", x.turn(1, 1), 9);
    RIG.refused("turn behind that", x, NO_STATE, () -> x.turn(1, -1));
    x.string(1, 0);
    RIG.due("turn with new strings", x.turn(1, 3), 3);
  }

  /** "If several exceptions apply, the one that is named first is thrown." */
  private static void orderOfTurn() {
    for (int cents : new int[] {-601, 601, Integer.MIN_VALUE, Integer.MAX_VALUE}) {
      RIG.refusedForGood("turn of none, too far", RefusedTest::used, NO_INDEX, x -> x.turn(8, cents));
      RIG.refusedForGood("turn of none, too far", RefusedTest::used, NO_INDEX, x -> x.turn(-1, cents));
      RIG.refusedForGood("broken, too far", RefusedTest::used, NO_ARGUMENT, x -> x.turn(6, cents));
    }
    RIG.refusedForGood("turn of none", RefusedTest::used, NO_INDEX, x -> x.turn(8, 0));
  }

  private static void orderOfString() {
    for (int pitch : new int[] {-1, 5001, Integer.MIN_VALUE, Integer.MAX_VALUE}) {
      RIG.refusedForGood("string of none", RefusedTest::used, NO_INDEX, x -> x.string(8, pitch));
      RIG.refusedForGood("string of none", RefusedTest::used, NO_INDEX, x -> x.string(-1, pitch));
      RIG.refusedForGood("broken, no such pitch", RefusedTest::used, NO_ARGUMENT, x -> x.string(6, pitch));
    }
  }

  private static void orderOfLasts() {
    for (int cents : new int[] {-1, 201, Integer.MIN_VALUE, Integer.MAX_VALUE}) {
      RIG.refusedForGood("lasts, no a", RefusedTest::used, NO_INDEX, x -> x.lasts(20, 0, 0, cents));
      RIG.refusedForGood("lasts, no b", RefusedTest::used, NO_INDEX, x -> x.lasts(0, -1, 0, cents));
      RIG.refusedForGood("lasts, no interval", RefusedTest::used, NO_INDEX, x -> x.lasts(0, 1, 4, cents));
      // The key 6 is silent: what is wrong is told all the same.
      RIG.refusedForGood("lasts of a silent key", RefusedTest::used, NO_ARGUMENT, x -> x.lasts(6, 0, 0, cents));
    }
    RIG.refusedForGood("off of a silent key", RefusedTest::used, NO_INDEX, x -> x.off(6, 0, 4));
    RIG.refusedForGood("beats of a silent key", RefusedTest::used, NO_INDEX, x -> x.beats(6, 0, -1));
    RIG.refusedForGood("off of one key alone", RefusedTest::used, NO_INDEX, x -> x.off(6, 20, 0));
    RIG.refusedForGood("beats of one key alone", RefusedTest::used, NO_INDEX, x -> x.beats(20, 6, 0));
    RIG.refusedForGood("lasts of one key alone", RefusedTest::used, NO_INDEX, x -> x.lasts(6, 20, 0, 0));
  }

  private static void refersToNothing(String what, Rig.Maker maker) {
    RIG.refusedForGood("course of " + what, maker, NO_INDEX, x -> x.course(0, 0));
    RIG.refusedForGood("key of " + what, maker, NO_INDEX, x -> x.key(0, 0));
    RIG.refusedForGood("tune of " + what, maker, NO_INDEX, x -> x.tune(0, 0));
    RIG.refusedForGood("carry of " + what, maker, NO_INDEX, x -> x.carry(0) ? 1 : 0);
    RIG.refusedForGood("turn of " + what, maker, NO_INDEX, x -> x.turn(0, 0));
    RIG.refusedForGood("string of " + what, maker, NO_INDEX, x -> x.string(0, 0));
    RIG.refusedForGood("off of " + what, maker, NO_INDEX, x -> x.off(0, 0, 0));
    RIG.refusedForGood("beats of " + what, maker, NO_INDEX, x -> x.beats(0, 0, 0));
    RIG.refusedForGood("triad of " + what, maker, NO_INDEX, x -> x.triad(0));
    RIG.refusedForGood("without of " + what, maker, NO_INDEX, x -> x.without(0));
    RIG.refusedForGood("lasts of " + what, maker, NO_INDEX, x -> x.lasts(0, 0, 0, 0));
  }

  /** "Creates a clavichord without courses": there is no course, key or tune to refer to. */
  private static void nothingIsToldYet() {
    refersToNothing("a new object", ClaviTuner::new);
  }

  /** "in the place of all that was told before" */
  private static void nothingIsToldAnyMore() {
    refersToNothing("what an empty list tells", RefusedTest::emptied);
    ClaviTuner x = used();
    Rig.teach(x, Lists.TWO + "tune k from l fifth up;");
    RIG.refused("the third of two courses", x, NO_INDEX, () -> x.course(2, 0));
    RIG.refused("the third of two keys", x, NO_INDEX, () -> x.key(2, 0));
    RIG.refused("the second of one tune", x, NO_INDEX, () -> x.tune(1, 0));
    RIG.due("the first one was not carried out", x.tune(0, 6), 0);
    RIG.due("no course is broken", x.count(3), 0);
  }

  private static ClaviTuner emptied() {
    ClaviTuner x = used();
    x.teach();
    return x;
  }

  /** "If it has an error, all stays (but the tape is empty)." */
  private static void everyErrorLeavesAll() {
    String[] marked = WRONG_LINES.clone();
    marked[1] = "course z pitch 0 slack 0 @hold 0;";
    for (int error = 1; error <= 6; error++) {
      String list = FULL_COURSES + marked[error];
      ClaviTuner x = used();
      RIG.due("teach of " + list, Rig.teach(x, Lists.unmarked(list)), error);
      RIG.due("errorAt() of " + list, x.errorAt(), Lists.placeOf(list));
      RIG.due("bytes behind " + list, x.count(10), 0);
      RIG.sameButErrorAt("a list with error " + error, x, used());
    }
    ClaviTuner tooLong = used();
    RIG.due("a list that ends too soon", Rig.teach(tooLong, Lists.TWO + "tune k"), 1);
    RIG.sameButErrorAt("a list that ends too soon", tooLong, used());
  }

  private static void errorsOneBehindTheOther() {
    ClaviTuner x = used();
    for (int error = 6; error >= 2; error--) {
      String list = FULL_COURSES + WRONG_LINES[error];
      RIG.due("teach of " + list, Rig.teach(x, Lists.unmarked(list)), error);
      RIG.due("errorAt() of " + list, x.errorAt(), Lists.placeOf(list));
    }
    RIG.sameButErrorAt("five lists with errors", x, used());
  }

  /** What a list with an error told is not told ahead of what the next one tells. */
  private static void wrongListsTellNothing() {
    ClaviTuner x = new ClaviTuner();
    RIG.due("an error at the end", Rig.teach(x, Lists.TWO + "tune k from l fifth up;?"), 1);
    RIG.due("courses", x.count(2), 0);
    RIG.due("a key on what was not told", Rig.teach(x, "key z on a at 0;"), 3);
    RIG.due("the same names again", Rig.teach(x, Lists.TWO), 0);
    RIG.due("a name that was told in the list before", Rig.teach(x, Lists.TWO), 0);
    RIG.due("a key on what was told in the list before", Rig.teach(x, "key z on a at 0;"), 3);
    RIG.due("courses stay", x.count(2), 2);
    RIG.due("keys stay", x.count(4), 2);
    RIG.due("keys of the course stay", x.course(0, 4), 1);
  }

  /** "names and numbers are looked at from left to right, and the first error is told" */
  private static void firstOfTwoErrors() {
    for (int first = 2; first <= 6; first++) {
      for (int second = 2; second <= 6; second++) {
        String behind = Lists.unmarked(WRONG_LINES[second]);
        Lists.fails(RIG, first, FULL_COURSES + WRONG_LINES[first] + behind);
      }
    }
  }

  /** "Only if there is no error 1, keywords, names and numbers are looked at" */
  private static void errorOneAheadOfAll() {
    for (int error = 2; error <= 6; error++) {
      String wrong = FULL_COURSES + Lists.unmarked(WRONG_LINES[error]);
      Lists.fails(RIG, 1, wrong + "@?");
      Lists.fails(RIG, 1, wrong + "course@");
      Lists.fails(RIG, 1, wrong + "course x pitch 0 slack 0 holds @0000000;");
      Lists.fails(RIG, 1, wrong + "tune k0 from k1 fifth up less --------@-1;");
      Lists.fails(RIG, 1, wrong.substring(0, wrong.length() - 1) + "@");
      Lists.fails(RIG, 1, "@!" + wrong);
    }
  }

  private static void firstOfTwoInALine() {
    Lists.fails(RIG, 2, FULL_COURSES + "course @c0 pitch 4801 slack 10 holds 6001;");
    Lists.fails(RIG, 4, FULL_COURSES + "course @z pitch 4801 slack 10 holds 6001;");
    Lists.fails(RIG, 2, FULL_COURSES + "key @k0 on q at 601;");
    Lists.fails(RIG, 3, FULL_COURSES + "key z on @q at 601;");
    Lists.fails(RIG, 5, "course z pitch @4801 slack 10 holds 6001;");
    Lists.fails(RIG, 5, "course z pitch 4800 slack @10 holds 6001;");
    Lists.fails(RIG, 5, "course z pitch 4800 slack 9 holds @6001;");
  }

  private static void firstOfTwoInATune() {
    Lists.fails(RIG, 3, FULL_COURSES + "tune @q from q fifth up less pitch q when broken q;");
    Lists.fails(RIG, 3, FULL_COURSES + "tune k0 from @q fifth up less pitch q when broken q;");
    Lists.fails(RIG, 6, FULL_COURSES + "tune k0 from @k0 fifth up less pitch q when broken q;");
    Lists.fails(RIG, 3, FULL_COURSES + "tune k0 from k1 fifth up less pitch @q when broken q;");
    Lists.fails(RIG, 3, FULL_COURSES + "tune k0 from k1 fifth up less gap @q q when broken q;");
    Lists.fails(RIG, 3, FULL_COURSES + "tune k0 from k1 fifth up less gap k0 @q when broken q;");
    Lists.fails(RIG, 3, FULL_COURSES + "tune k0 from k1 fifth up less 1 when broken @q;");
    Lists.fails(RIG, 3, FULL_COURSES + "tune k0 from k1 fifth up when broken c0 and pitch @q = pitch q;");
  }

  /** "of errors at one token the one with the smallest number" */
  private static void severalAtOneToken() {
    Lists.fails(RIG, 2, FULL_COURSES + "course @c7 pitch 0 slack 0 holds 0;");
    Lists.fails(RIG, 2, Lists.eightCourses() + Lists.twentyKeys() + "key @k19 on c0 at 0;");
    // A name that is no key has no course, so it is never that of the other key.
    Lists.fails(RIG, 3, FULL_COURSES + "tune k0 from @c0 fifth up;");
    Lists.fails(RIG, 3, FULL_COURSES + "tune @c0 from c0 fifth up;");
  }

  /** "behind on and broken of a course; behind tune, from and pitch ... and ... gap of a key" */
  private static void namesOfTheRightSort() {
    String[] ofCourses = {"key z on @N at 0;", "tune k0 from k1 fifth up when broken @N;"};
    String[] ofKeys = {
      "tune @N from k1 fifth up;", "tune k1 from @N fifth up;", "tune k0 from k1 fifth up less pitch @N;",
      "tune k0 from k1 fifth up less gap @N k0;", "tune k0 from k1 fifth up less gap k0 @N;",
      "tune k0 from k1 fifth up when pitch @N = 0;", "tune k0 from k1 fifth up when not [gap @N k0 < 1];"
    };
    for (String line : ofCourses) {
      Lists.holds(RIG, Lists.unmarked(FULL_COURSES + line.replace("N", "c7")));
      Lists.fails(RIG, 3, FULL_COURSES + line.replace("N", "k0"));
      Lists.fails(RIG, 3, FULL_COURSES + line.replace("N", "z") + "key w on c0 at 0;");
    }
    for (String line : ofKeys) {
      Lists.holds(RIG, Lists.unmarked(FULL_COURSES + line.replace("N", "k2")));
      Lists.fails(RIG, 3, FULL_COURSES + line.replace("N", "c7"));
      Lists.fails(RIG, 3, FULL_COURSES + line.replace("N", "w") + "key w on c7 at 0;");
    }
  }

  /** "told ahead": not behind it, not in its own line, not in the list before. */
  private static void notToldAtAll() {
    Lists.fails(RIG, 3, "key k on @a at 0;course a pitch 0 slack 0 holds 0;");
    Lists.fails(RIG, 3, "key k on @k at 0;");
    Lists.fails(RIG, 3, Lists.TWO + "tune k from l fifth up when broken @c;course c pitch 0 slack 0 holds 0;");
    Lists.fails(RIG, 2, Lists.TWO + "course c pitch 0 slack 0 holds 0;course @a pitch 0 slack 0 holds 0;");
    Lists.holds(RIG, "course a pitch 0 slack 0 holds 0;key a on a at 0;");
    ClaviTuner x = Rig.taught(Lists.TWO);
    RIG.due("names of the list before", Rig.teach(x, "tune k from l fifth up;"), 3);
    RIG.due("errorAt() of it", x.errorAt(), 5);
  }

  /** "Returns the position of the error of the latest teach(); -1 if it had none" */
  private static void errorAtUntilTheNextTeach() {
    ClaviTuner x = new ClaviTuner();
    Rig.teach(x, "  ?");
    RIG.due("errorAt()", x.errorAt(), 2);
    Rig.feed(x, Lists.TWO);
    x.trim(3);
    x.pass(1);
    x.run();
    RIG.due("errorAt() behind other calls", x.errorAt(), 2);
    x.trim(0);
    RIG.due("errorAt() behind trim", x.errorAt(), 2);
    Rig.teach(x, "?");
    RIG.due("errorAt() at the first byte", x.errorAt(), 0);
    Rig.teach(x, Lists.TWO);
    RIG.due("errorAt() without an error", x.errorAt(), -1);
  }

  private static String tunes() {
    return BROKEN_ONES
        + "tune k from o fifth down when 1=2;tune l from k fifth up;tune k from l fifth down;"
        + "tune n from m third down;tune o from k fifth up less 1;";
  }

  /** "A tune is carried out, if its test holds ..., and both keys are not silent" */
  private static void notCarriedOut() {
    for (int tune = 0; tune < 4; tune++) {
      ClaviTuner x = Rig.taught(tunes());
      RIG.due("would it be carried out: " + tune, x.tune(tune, 5), 0);
      RIG.due("carry " + tune, x.carry(tune) ? 1 : 0, 0);
      RIG.due("how often it was", x.tune(tune, 6), 0);
      RIG.due("without it is as with it", x.without(tune), x.would(0) + x.would(1));
      RIG.sameFromNowOn("carry of what is not carried out, " + tune, x, Rig.taught(tunes()));
    }
    ClaviTuner x = Rig.taught(tunes());
    RIG.due("would the last one be carried out", x.tune(4, 5), 1);
    RIG.due("carry of it", x.carry(4) ? 1 : 0, 1);
    RIG.due("its key", x.key(4, 2), 1701);
  }

  private static void notCarriedOutInARun() {
    ClaviTuner x = Rig.taught(tunes());
    RIG.due("would(4)", x.would(4), 1);
    RIG.due("would(3)", x.would(3), 2);
    RIG.due("run()", x.run(), 1);
    int[] often = {0, 0, 0, 0, 1};
    int[] pitches = {1000, 1703, 1390, 1701, 1380};
    for (int i = 0; i < 5; i++) {
      RIG.due("how often the tune " + i, x.tune(i, 6), often[i]);
      RIG.due("the pitch of the course " + i, x.course(i, 0), pitches[i]);
    }
    RIG.due("broken ones", x.count(3), 2);
  }

  /** "and as 0 in sums"; "0, if one of them is silent"; "broken holds, if a course is broken" */
  private static void silentInSums() {
    String[] sums = {"pitch l", "pitch m", "pitch n", "gap k l", "gap l k", "gap l m", "gap m n", "gap l l"};
    for (String sum : sums) {
      ClaviTuner x = Rig.taught(BROKEN_ONES + "tune o from k fifth up less 7+" + sum + " when " + sum + "=0;");
      RIG.due("7+" + sum, x.tune(0, 4), 7);
      RIG.due("its test holds", x.tune(0, 5), 1);
    }
    ClaviTuner x =
        Rig.taught(BROKEN_ONES + "tune o from k fifth up less gap k o - 700 when broken b and not broken a;");
    RIG.due("a gap that sounds", x.tune(0, 4), 10);
    RIG.due("what is broken", x.tune(0, 5), 1);
    x.string(1, 1702);
    RIG.due("what is not broken any more", x.tune(0, 5), 0);
    ClaviTuner y = Rig.taught(BROKEN_ONES + "tune o from k fifth up less pitch l-1700+gap k l-700;");
    RIG.due("while silent, far less than held", y.tune(0, 4), -100);
    y.string(1, 1702);
    RIG.due("with new strings", y.tune(0, 4), 4);
    ClaviTuner silent = Rig.taught(BROKEN_ONES + "tune l from k fifth up less 9 - pitch l;");
    RIG.due("less of a tune of a silent key", silent.tune(0, 4), 9);
  }

  /** "Then its pitch is told as -1 by key()"; "0 if one of them is silent"; "-1 without one" */
  private static void silentKeysAreAsked() {
    ClaviTuner x = Rig.taught(BROKEN_ONES);
    int[][] due = {{1, 0, -1, -1, 0, -1, 0}, {1, 5, -1, -1, 0, -1, 0}, {2, 0, -1, -1, 0, -1, 0}};
    for (int key = 1; key <= 3; key++) {
      for (int what = 0; what <= 6; what++) {
        RIG.due("key(" + key + ", " + what + ")", x.key(key, what), due[key - 1][what]);
      }
      for (int other = 0; other <= 5; other++) {
        for (int interval = 0; interval <= 3; interval++) {
          RIG.due("off of a silent one", x.off(key, other, interval), 0);
          RIG.due("off of a silent one", x.off(other, key, interval), 0);
          RIG.due("beats of a silent one", x.beats(key, other, interval), 0);
          RIG.due("beats of a silent one", x.beats(other, key, interval), 0);
        }
        RIG.due("lasts of a silent one", x.lasts(key, other, 0, 200), 0);
        RIG.due("lasts of a silent one", x.lasts(other, key, 0, 200), 0);
      }
      RIG.due("triad of a silent one", x.triad(key), -1);
    }
    RIG.due("off of two that sound", x.off(0, 4, 0), 8);
    RIG.dueDouble("mean() of what sounds", x.mean(), (1000 + 1710 + 1380) / 3.0);
  }

  /** "of a broken one that at which it broke"; "3 1 if it is broken, else 0" */
  private static void brokenCoursesAreAsked() {
    ClaviTuner x = Rig.taught(BROKEN_ONES);
    int[][] due = {
      {1000, 1, 6000, 0, 1}, {1703, 2, 1702, 1, 2}, {1390, 3, 1389, 1, 1}, {1710, 0, 6000, 0, 1},
      {1380, 0, 6000, 0, 1}
    };
    for (int course = 0; course < 5; course++) {
      for (int what = 0; what <= 4; what++) {
        RIG.due("course(" + course + ", " + what + ")", x.course(course, what), due[course][what]);
      }
    }
    RIG.due("broken ones", x.count(3), 2);
    RIG.due("keys, silent ones, too", x.count(4), 6);
    RIG.due("would(3)", x.would(3), 2);
    ClaviTuner turned = Rig.taught(Rig.courses("a", 100, 0, 200));
    RIG.due("turned far beyond what it holds", turned.turn(0, 600), 700);
    RIG.due("the pitch at which it broke", turned.course(0, 0), 700);
  }

  /** "On a day each course that is not broken is sharper" */
  private static void brokenCoursesStayAsTheyAre() {
    ClaviTuner x = Rig.taught(BROKEN_ONES);
    x.setDamp(5);
    RIG.due("pass(2)", x.pass(2), 0);
    int[] pitches = {1008, 1703, 1390, 1720, 1390};
    for (int course = 0; course < 5; course++) {
      RIG.due("pitch of " + course, x.course(course, 0), pitches[course]);
    }
    x.setDamp(-5);
    RIG.due("pass(120)", x.pass(120), 0);
    RIG.due("a broken one at less than it holds would not be whole again", x.course(1, 3), 1);
    RIG.due("its pitch", x.course(1, 0), 1703);
    RIG.due("broken ones", x.count(3), 2);
  }

  /** "of all other keys that are not silent"; "of all keys with a fifth" */
  private static void silentKeysAreNoFifths() {
    ClaviTuner x = Rig.taught(BROKEN_ONES);
    RIG.due("fifth of k", x.key(0, 3), 4);
    RIG.due("how sour, not as that of the silent l", x.key(0, 4), 8);
    RIG.due("third of k", x.key(0, 5), 5);
    RIG.due("how sour, not as that of the silent n", x.key(0, 6), 6);
    RIG.due("triad of k", x.triad(0), 14);
    // p has o as a third, too, by 56 from a pure one.
    int[] due = {1, 2, 8, 62};
    for (int what = 6; what <= 9; what++) {
      RIG.due("count(" + what + ")", x.count(what), due[what - 6]);
    }
    RIG.due("wolf()", x.wolf(), 0);
    RIG.due("sweetest()", x.sweetest(), 0);
    for (int i = 0; i < 9; i++) {
      x.turn(0, 600);
    }
    RIG.due("k is silent", x.key(0, 2), -1);
    RIG.due("wolf() with k silent", x.wolf(), -1);
    RIG.due("sweetest() with k silent", x.sweetest(), -1);
    RIG.due("triad of k", x.triad(0), -1);
    RIG.due("fifths", x.count(6), 0);
  }

  /** "Puts new strings onto a course; it is not broken then." */
  private static void newStringsSound() {
    ClaviTuner x = Rig.taught(tunes());
    RIG.refused("string with more than it holds", x, NO_ARGUMENT, () -> x.string(1, 1703));
    RIG.due("string, the pitch at which it broke", x.string(1, 1701), 1703);
    RIG.due("it is not broken", x.course(1, 3), 0);
    RIG.due("broken ones", x.count(3), 1);
    RIG.due("its key sounds", x.key(1, 2), 1701);
    RIG.due("its other key sounds", x.key(2, 2), 1706);
    RIG.due("it is the fifth of k", x.key(0, 3), 1);
    RIG.due("how sour", x.key(0, 4), 1);
    RIG.due("the tune would be carried out", x.tune(1, 5), 1);
    RIG.due("the one with n would not", x.tune(3, 5), 0);
    RIG.due("turn", x.turn(1, 1), 1702);
    RIG.due("pass(1)", x.pass(1), 0);
    RIG.due("it ages again", x.course(1, 0), 1700);
    RIG.due("run()", x.run(), 3);
  }

  /** "or one of them is silent": both break at different times. */
  private static void silentInTheEnd() {
    String list =
        Rig.courses("a", 1000, 0, 1009, "b", 1702, 0, 1706, "c", 1000, 0, 6000)
            + Rig.keys("k", "a", 0, "l", "b", 0, "m", "c", 0, "n", "a", 0);
    ClaviTuner x = Rig.taught(list);
    x.setDamp(1);
    RIG.due("as long as both sound", x.lasts(0, 1, 0, 200), 5);
    RIG.due("the other way", x.lasts(1, 0, 0, 200), 5);
    RIG.due("as long as the first one sounds", x.lasts(0, 2, 2, 200), 0);
    RIG.due("two keys of a course, off by 386 already", x.lasts(0, 3, 2, 200), 0);
    RIG.due("nothing breaks by being asked", x.count(3), 0);
    RIG.due("the day stays", x.count(0), 0);
    RIG.due("pass(5)", x.pass(5), 1);
    RIG.due("silent now", x.lasts(0, 1, 0, 200), 0);
    RIG.due("the pitch at which it broke", x.course(1, 0), 1707);
    RIG.due("pass(5), the other one", x.pass(5), 1);
    RIG.due("the pitch at which it broke", x.course(0, 0), 1010);
  }
}
