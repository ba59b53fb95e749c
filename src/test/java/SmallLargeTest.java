/**
 * Too small and too large: each number that a promise or the language bounds, at its bounds and
 * beyond them; the sentence of the document that is tested stands above its test.
 */
final class SmallLargeTest {
  private static final Rig RIG = new Rig();
  private static final Class<?> NO_INDEX = IndexOutOfBoundsException.class;
  private static final Class<?> NO_ARGUMENT = IllegalArgumentException.class;

  private interface With {
    long of(ClaviTuner x, int n);
  }

  public static void main(String[] args) {
    trim();
    count();
    course();
    key();
    tune();
    tunesReferred();
    turn();
    string();
    setDamp();
    pass();
    offAndBeats();
    triad();
    would();
    lasts();
    numbersOfTheLanguage();
    numbersOfSums();
    lessIsHeld();
    lessIsHeldAsItIsCarriedOut();
    turnedBelowZero();
    tunedBelowZero();
    agedBelowZero();
    wouldBelowZero();
    moreThanItHolds();
    wouldBreak();
    nearestFifthsAndThirds();
    temperedBy();
    lastsAtMost();
    highestBeats();
    RIG.end();
  }

  /** Every limit of the list is reached, and a tape waits. */
  private static ClaviTuner full() {
    ClaviTuner x = Rig.taught(Lists.full());
    x.setDamp(1);
    x.pass(2);
    x.carry(0);
    Rig.feed(x, Lists.TWO + "tune k from l fifth up;");
    return x;
  }

  private static void bounded(String what, Class<?> exception, int least, int most, With call) {
    for (int n : new int[] {least, most}) {
      RIG.notRefused(what + " of " + n, SmallLargeTest::full, x -> call.of(x, n));
    }
    for (int n : new int[] {least - 1, most + 1, Integer.MIN_VALUE, Integer.MAX_VALUE}) {
      RIG.refusedForGood(what + " of " + n, SmallLargeTest::full, exception, x -> call.of(x, n));
    }
  }

  /** "if n is not 0 to the number of bytes of the tape" */
  private static void trim() {
    bounded("trim", NO_ARGUMENT, 0, full().count(10), ClaviTuner::trim);
    ClaviTuner x = full();
    int bytes = x.count(10);
    RIG.due("trim to all of it", x.trim(bytes), bytes);
    RIG.due("trim to one less", x.trim(bytes - 1), bytes - 1);
    RIG.due("bytes then", x.count(10), bytes - 1);
    RIG.refused("trim to what was cut off", x, NO_ARGUMENT, () -> x.trim(bytes));
    RIG.due("trim to nothing", x.trim(0), 0);
    RIG.due("bytes then", x.count(10), 0);
    RIG.refused("trim of an empty tape to 1", x, NO_ARGUMENT, () -> x.trim(1));
    RIG.refused("trim of an empty tape to -1", x, NO_ARGUMENT, () -> x.trim(-1));
  }

  /** "if what is not 0 to 10" */
  private static void count() {
    bounded("count", NO_INDEX, 0, 10, ClaviTuner::count);
    RIG.due("count(0), the day", full().count(0), 2);
    RIG.due("count(10), bytes", full().count(10), (Lists.TWO + "tune k from l fifth up;").length());
  }

  /** "if there is no such course, or what is not 0 to 4" */
  private static void course() {
    bounded("course's number", NO_INDEX, 0, 7, (x, n) -> x.course(n, 0));
    bounded("course's what", NO_INDEX, 0, 4, (x, n) -> x.course(7, n));
    RIG.due("course(7, 2)", full().course(7, 2), 5000);
    RIG.due("course(7, 4)", full().course(7, 4), 2);
    RIG.due("course(0, 4)", full().course(0, 4), 3);
  }

  /** "if there is no such key, or what is not 0 to 6" */
  private static void key() {
    bounded("key's number", NO_INDEX, 0, 19, (x, n) -> x.key(n, 0));
    bounded("key's what", NO_INDEX, 0, 6, (x, n) -> x.key(19, n));
    RIG.due("key(19, 0)", full().key(19, 0), 3);
    RIG.due("key(19, 1)", full().key(19, 1), 20);
  }

  /** "if there is no such tune, or what is not 0 to 6" */
  private static void tune() {
    bounded("tune's number", NO_INDEX, 0, 23, (x, n) -> x.tune(n, 0));
    bounded("tune's what", NO_INDEX, 0, 6, (x, n) -> x.tune(23, n));
    RIG.due("tune(23, 0)", full().tune(23, 0), 0);
    RIG.due("tune(23, 1)", full().tune(23, 1), 7);
    RIG.due("tune(0, 6)", full().tune(0, 6), 1);
  }

  /** "if there is no such tune" */
  private static void tunesReferred() {
    bounded("carry", NO_INDEX, 0, 23, (x, n) -> x.carry(n) ? 1 : 0);
    bounded("without", NO_INDEX, 0, 23, ClaviTuner::without);
  }

  /** "if there is no such course"; "if cents is not -600 to 600" */
  private static void turn() {
    bounded("turn's course", NO_INDEX, 0, 7, (x, n) -> x.turn(n, 1));
    bounded("turn's cents", NO_ARGUMENT, -600, 600, (x, n) -> x.turn(7, n));
    ClaviTuner x = Rig.taught(Lists.TWO);
    RIG.due("turn by 600", x.turn(0, 600), 1600);
    RIG.due("turn by -600", x.turn(0, -600), 1000);
  }

  /** "if there is no such course"; "if pitch is less than 0, or more than it holds" */
  private static void string() {
    bounded("string's course", NO_INDEX, 0, 7, (x, n) -> x.string(n, 1));
    bounded("string's pitch", NO_ARGUMENT, 0, 5000, (x, n) -> x.string(7, n));
    ClaviTuner x = Rig.taught(Rig.courses("a", 0, 0, 0, "b", 9, 0, 8, "c", 1, 0, 6000));
    RIG.due("string to 0 of what holds 0", x.string(0, 0), 0);
    RIG.refused("string to 1 of what holds 0", x, NO_ARGUMENT, () -> x.string(0, 1));
    RIG.refused("string to 9 of what broke at it", x, NO_ARGUMENT, () -> x.string(1, 9));
    RIG.due("broken all the same", x.course(1, 3), 1);
    RIG.due("string to 8, as it holds", x.string(1, 8), 9);
    RIG.due("not broken then", x.course(1, 3), 0);
    RIG.due("string to more than a list tells", x.string(2, 6000), 1);
    RIG.due("its pitch then", x.course(2, 0), 6000);
    RIG.refused("string to 6001", x, NO_ARGUMENT, () -> x.string(2, 6001));
  }

  /** "if damp is not -5 to 5" */
  private static void setDamp() {
    bounded("setDamp", NO_ARGUMENT, -5, 5, ClaviTuner::setDamp);
    ClaviTuner x = Rig.taught(Lists.TWO);
    RIG.due("setDamp to the most", x.setDamp(5), 0);
    x.pass(1);
    RIG.due("sharper by 5, flatter by 1", x.course(0, 0), 1004);
    RIG.due("setDamp to the least", x.setDamp(-5), 5);
    x.pass(1);
    RIG.due("flatter by 5 and by 1", x.course(0, 0), 998);
  }

  /** "if days is not 1 to 120" */
  private static void pass() {
    bounded("pass", NO_ARGUMENT, 1, 120, ClaviTuner::pass);
    ClaviTuner x = Rig.taught(Lists.TWO);
    x.pass(1);
    RIG.due("the day", x.count(0), 1);
    RIG.due("its slack", x.course(0, 0), 999);
    x.pass(120);
    RIG.due("the day", x.count(0), 121);
    RIG.due("its slack of 120 days", x.course(0, 0), 879);
  }

  /** "if there is no such key, or interval is not 0 to 3" */
  private static void offAndBeats() {
    bounded("off's a", NO_INDEX, 0, 19, (x, n) -> x.off(n, 0, 0));
    bounded("off's b", NO_INDEX, 0, 19, (x, n) -> x.off(0, n, 0));
    bounded("off's interval", NO_INDEX, 0, 3, (x, n) -> x.off(0, 19, n));
    bounded("beats's a", NO_INDEX, 0, 19, (x, n) -> x.beats(n, 0, 0));
    bounded("beats's b", NO_INDEX, 0, 19, (x, n) -> x.beats(0, n, 0));
    bounded("beats's interval", NO_INDEX, 0, 3, (x, n) -> x.beats(0, 19, n));
    ClaviTuner x = Rig.taught(Lists.full());
    int[] pure = {702, 498, 386, 1200};
    for (int interval = 0; interval < 4; interval++) {
      RIG.due("off of 1000 and 1320", x.off(0, 19, interval), 320 - pure[interval]);
    }
  }

  /** "if there is no such key" */
  private static void triad() {
    bounded("triad", NO_INDEX, 0, 19, ClaviTuner::triad);
  }

  /** "if what is not 0 to 4" */
  private static void would() {
    bounded("would", NO_INDEX, 0, 4, ClaviTuner::would);
    RIG.due("would(4)", full().would(4), 24);
    RIG.due("would(3)", full().would(3), 0);
  }

  /** "if there is no such key, or interval is not 0 to 3"; "if cents is not 0 to 200" */
  private static void lasts() {
    bounded("lasts's a", NO_INDEX, 0, 19, (x, n) -> x.lasts(n, 0, 0, 0));
    bounded("lasts's b", NO_INDEX, 0, 19, (x, n) -> x.lasts(0, n, 0, 0));
    bounded("lasts's interval", NO_INDEX, 0, 3, (x, n) -> x.lasts(0, 19, n, 0));
    bounded("lasts's cents", NO_ARGUMENT, 0, 200, (x, n) -> x.lasts(0, 19, 0, n));
  }

  /** "a number is out of its range: pitch 0 to 4800, slack 0 to 9, holds 0 to 6000, at 0 to 600" */
  private static void numbersOfTheLanguage() {
    String[] marked = {
      "course a pitch @N slack 1 holds 6000;", "course a pitch 1 slack @N holds 6000;",
      "course a pitch 0 slack 1 holds @N;", "course a pitch 0 slack 0 holds 0;key k on a at @N;"
    };
    int[] most = {4800, 9, 6000, 600};
    for (int i = 0; i < marked.length; i++) {
      for (int n : new int[] {0, 1, most[i] - 1, most[i]}) {
        ClaviTuner x = Rig.taught(Lists.unmarked(marked[i]).replace("N", "" + n));
        RIG.due(marked[i] + " of " + n, i < 3 ? x.course(0, i) : x.key(0, 1), n);
      }
      Lists.fails(RIG, 5, marked[i].replace("N", "" + (most[i] + 1)));
      Lists.fails(RIG, 5, marked[i].replace("N", "0" + (most[i] + 1)));
      Lists.fails(RIG, 5, marked[i].replace("N", "999999"));
      Lists.fails(RIG, 1, marked[i].replace("N", "1000000"));
      Lists.fails(RIG, 1, marked[i].replace("N", "-1"));
    }
  }

  /** No range is told of the numbers of sums: 999999 is more than that of any other. */
  private static void numbersOfSums() {
    for (String n : new String[] {"0", "601", "4801", "6001", "999999"}) {
      Lists.holds(RIG, Lists.TWO + "tune k from l fifth up less " + n + ";");
      Lists.holds(RIG, Lists.TWO + "tune k from l fifth up when " + n + " = " + n + ";");
    }
    Lists.fails(RIG, 1, Lists.TWO + "tune k from l fifth up less @1000000;");
    Lists.fails(RIG, 1, Lists.TWO + "tune k from l fifth up when 0<@1000000;");
  }

  /** "What is told behind less is held at -100 to 100." */
  private static void lessIsHeld() {
    int[][] due = {
      {-999999, -100}, {-101, -100}, {-100, -100}, {-99, -99}, {0, 0}, {99, 99}, {100, 100},
      {101, 100}, {999999, 100}
    };
    for (int[] d : due) {
      ClaviTuner x = Rig.taught(Lists.TWO + "tune k from l fifth up less " + d[0] + ";");
      RIG.due("what is told behind less " + d[0], x.tune(0, 4), d[1]);
    }
    RIG.due("without less", Rig.taught(Lists.TWO + "tune k from l fifth up;").tune(0, 4), 0);
  }

  private static void lessIsHeldAsItIsCarriedOut() {
    for (int less : new int[] {-5000, -101, -100, -99, 99, 100, 101, 5000}) {
      int held = less < -100 ? -100 : less > 100 ? 100 : less;
      String tune = Lists.TWO + "tune k from l third up less " + less + ";";
      RIG.due("up less " + less, pitchOfKBehindRun(tune), 2386 - held);
      RIG.due("down less " + less, pitchOfKBehindRun(tune.replace("up", "down")), 1614 + held);
      // k is then by 386 - held above l: a third by its sourness, and l by 814 + held above k.
      int third = Math.abs(held) <= 60 ? Math.abs(held) : 0;
      int fifth = Math.abs(112 + held) <= 60 ? Math.abs(112 + held) : 0;
      String two = Lists.TWO + "tune k from l third up less " + less + ";tune l from k octave up when 1=2;";
      RIG.due("would(0) with less " + less, Rig.taught(two).would(0), fifth);
      RIG.due("would(1) with less " + less, Rig.taught(two).would(1), third);
      RIG.due("without(1) with less " + less, Rig.taught(two).without(1), fifth + third);
    }
    // A fourth of 498 less 100 held is 398, and so a third that is 12 sour; less 112 is a pure one.
    String fourth = Lists.TWO + "tune k from l fourth up less 112;tune l from k octave up when 1=2;";
    RIG.due("would(1) of a held fourth", Rig.taught(fourth).would(1), 12);
    RIG.due("without(1) of a held fourth", Rig.taught(fourth).without(1), 12);
  }

  private static int pitchOfKBehindRun(String list) {
    ClaviTuner x = Rig.taught(list);
    x.run();
    return x.key(0, 2);
  }

  /** "Returns its pitch then, at least 0" */
  private static void turnedBelowZero() {
    for (int pitch : new int[] {0, 1, 599, 600, 601}) {
      ClaviTuner x = Rig.taught(Rig.courses("a", pitch, 0, 6000));
      int due = Math.max(pitch - 600, 0);
      RIG.due("turn of " + pitch + " by -600", x.turn(0, -600), due);
      RIG.due("pitch then", x.course(0, 0), due);
      RIG.due("turn by 7 from there", x.turn(0, 7), due + 7);
    }
  }

  /** "if it would be less than 0, it is at 0, and the tune is carried out all the same" */
  private static void tunedBelowZero() {
    // k is at 30 of its course: from 733 a fifth down its course comes to 1.
    for (int from = 730; from <= 733; from++) {
      ClaviTuner carried = Rig.taught(lowTune(from));
      ClaviTuner run = Rig.taught(lowTune(from));
      RIG.due("carry from " + from, carried.carry(0) ? 1 : 0, 1);
      RIG.due("run from " + from, run.run(), 1);
      for (ClaviTuner x : new ClaviTuner[] {carried, run}) {
        RIG.due("the course, tuned from " + from, x.course(0, 0), Math.max(from - 732, 0));
        RIG.due("the key, tuned from " + from, x.key(0, 2), Math.max(from - 702, 30));
        RIG.due("carried out", x.tune(0, 6), 1);
        RIG.due("not broken", x.course(0, 3), 0);
      }
    }
    ClaviTuner deep = Rig.taught(lowTune(0).replace("fifth", "octave"));
    RIG.due("carry far below 0", deep.carry(0) ? 1 : 0, 1);
    RIG.due("the course", deep.course(0, 0), 0);
    RIG.due("the key", deep.key(0, 2), 30);
  }

  private static String lowTune(int from) {
    return Rig.courses("a", 400, 0, 6000, "b", from, 0, 6000)
        + Rig.keys("k", "a", 30, "l", "b", 0)
        + "tune k from l fifth down;";
  }

  /** "sharper by the damp ..., and flatter by its slack, both at once, at least 0" */
  private static void agedBelowZero() {
    ClaviTuner x = Rig.taught(Rig.courses("a", 1, 9, 6000, "b", 14, 9, 6000, "c", 15, 9, 6000));
    x.setDamp(-5);
    RIG.due("pass(1)", x.pass(1), 0);
    int[] due = {0, 0, 1};
    for (int course = 0; course < 3; course++) {
      RIG.due("pitch of " + course + " later", x.course(course, 0), due[course]);
      RIG.due("broken " + course, x.course(course, 3), 0);
    }
    // One behind the other would bring it to 0 and 5, or to 5 and 0.
    ClaviTuner atOnce = Rig.taught(Rig.courses("a", 3, 9, 6000));
    atOnce.setDamp(5);
    atOnce.pass(1);
    RIG.due("both at once, to less than 0", atOnce.course(0, 0), 0);
    // Behind 1 day k is at 0 and stays there, l goes on: behind 5 days they are off by -6.
    String falling =
        Rig.courses("a", 1, 1, 6000, "b", 701, 1, 6000) + Rig.keys("k", "a", 0, "l", "b", 0);
    RIG.due("lasts, one at 0", Rig.taught(falling).lasts(0, 1, 0, 5), 5);
    RIG.due("lasts, both at 0", Rig.taught(falling.replace("701", "1")).lasts(0, 1, 2, 200), 0);
  }

  /** As tunedBelowZero, if it is only asked. */
  private static void wouldBelowZero() {
    // From 731 the course is at 0, k at 30: k and l are by 701 from each other.
    int[][] due = {{733, 0}, {732, 0}, {731, 1}, {700, 32}, {671, 0}};
    for (int[] d : due) {
      ClaviTuner x = Rig.taught(lowTune(d[0]) + "tune l from k fifth up when 1=2;");
      RIG.due("would(0) from " + d[0], x.would(0), d[1]);
      RIG.due("would(4) from " + d[0], x.would(4), 1);
      RIG.due("without(1) from " + d[0], x.without(1), d[1]);
      RIG.due("the course stays", x.course(0, 0), 400);
    }
  }

  /** "is broken, if it ever was more than it holds (at first as well)" */
  private static void moreThanItHolds() {
    for (int above = 0; above <= 1; above++) {
      ClaviTuner first = Rig.taught(Rig.courses("a", 500 + above, 0, 500));
      RIG.due("broken at first, by " + above, first.course(0, 3), above);
      ClaviTuner turned = Rig.taught(Rig.courses("a", 400, 0, 500));
      RIG.due("turned to 500 and " + above, turned.turn(0, 100 + above), 500 + above);
      RIG.due("broken by a turn, by " + above, turned.course(0, 3), above);
      ClaviTuner aged = Rig.taught(Rig.courses("a", 498 + above, 1, 500));
      aged.setDamp(3);
      RIG.due("how many break in a day, by " + above, aged.pass(1), above);
      RIG.due("broken by a day, by " + above, aged.course(0, 3), above);
      RIG.due("pitch then", aged.course(0, 0), 500 + above);
      ClaviTuner tuned = Rig.taught(highTune(1702 - above));
      RIG.due("carried out all the same", tuned.carry(0) ? 1 : 0, 1);
      RIG.due("broken by a tune, by " + above, tuned.course(0, 3), above);
      RIG.due("pitch then", tuned.course(0, 0), 1702);
    }
  }

  private static String highTune(int holds) {
    return Rig.courses("a", 0, 0, holds, "b", 1000, 0, 6000)
        + Rig.keys("k", "a", 0, "l", "b", 0)
        + "tune k from l fifth up;";
  }

  /** "3 broken courses then" */
  private static void wouldBreak() {
    ClaviTuner holds = Rig.taught(highTune(1702));
    ClaviTuner breaks = Rig.taught(highTune(1701) + "tune l from k fifth down;");
    RIG.due("would(3), at what it holds", holds.would(3), 0);
    RIG.due("would(0), at what it holds", holds.would(0), 0);
    RIG.due("would(2), at what it holds", holds.would(2), 1);
    RIG.due("would(3), beyond", breaks.would(3), 1);
    RIG.due("would(4), the second tune is silent", breaks.would(4), 1);
    RIG.due("would(2), beyond", breaks.would(2), -1);
    RIG.due("not broken now", breaks.course(0, 3), 0);
    RIG.due("pitch now", breaks.course(0, 0), 0);
    RIG.due("without what breaks it", breaks.without(0), 0);
    RIG.due("broken ones now", breaks.count(3), 0);
    RIG.due("run", breaks.run(), 1);
    RIG.due("broken ones behind run", breaks.count(3), 1);
  }

  /** "the nearest to 702, if it is not more than 60 away"; "The third likewise, by 386." */
  private static void nearestFifthsAndThirds() {
    for (int away : new int[] {-61, -60, 0, 60, 61}) {
      boolean near = Math.abs(away) <= 60;
      ClaviTuner fifth = Rig.taught(apart(702 + away));
      RIG.due("fifth that is " + away + " away", fifth.key(0, 3), near ? 1 : -1);
      RIG.due("its sourness", fifth.key(0, 4), near ? Math.abs(away) : 0);
      RIG.due("keys with a fifth", fifth.count(6), near ? 1 : 0);
      RIG.due("all fifths", fifth.count(8), near ? Math.abs(away) : 0);
      RIG.due("wolf", fifth.wolf(), near ? 0 : -1);
      ClaviTuner third = Rig.taught(apart(386 + away));
      RIG.due("third that is " + away + " away", third.key(0, 5), near ? 1 : -1);
      RIG.due("its sourness", third.key(0, 6), near ? Math.abs(away) : 0);
      RIG.due("keys with a third", third.count(7), near ? 1 : 0);
      RIG.due("all thirds", third.count(9), near ? Math.abs(away) : 0);
    }
  }

  private static String apart(int cents) {
    return Rig.courses("a", 1000, 0, 6000, "b", 1000 + cents, 0, 6000)
        + Rig.keys("k", "a", 0, "l", "b", 0);
  }

  /** "Returns it, 0 to 12, of several the least" */
  private static void temperedBy() {
    // c is tuned from a by a fifth; p is by so many cents too low for a pure fifth to the pure c,
    // and q is a third below what c then is, so that just so many cents are the least sour.
    for (int cents : new int[] {-1, 0, 1, 11, 12, 13, 14}) {
      for (String less : new String[] {"", " less 50", " less -50"}) {
        String list =
            Rig.courses("a", 1000, 0, 6000, "p", 1000 - cents, 0, 6000, "c", 0, 0, 6000)
                + Rig.courses("q", 1702 - cents - 386, 0, 6000)
                + Rig.keys("a", "a", 0, "p", "p", 0, "q", "q", 0, "c", "c", 0)
                + "tune c from a fifth up" + less + ";";
        RIG.due("temper to " + cents + less, Rig.taught(list).temper(), Math.max(0, Math.min(12, cents)));
      }
    }
  }

  /** "0 if so now, at most 200; -1 if not by then" */
  private static void lastsAtMost() {
    String strings =
        Rig.courses("a", 2000, 0, 6000, "b", 2702, 1, 6000, "c", 2000, 0, 2199, "d", 2702, 1, 2902)
            + Rig.keys("k", "a", 0, "l", "b", 0, "m", "c", 0, "n", "d", 0);
    ClaviTuner x = Rig.taught(strings);
    RIG.due("more than 0 cents", x.lasts(0, 1, 0, 0), 1);
    RIG.due("more than 199 cents, behind 200 days", x.lasts(0, 1, 0, 199), 200);
    RIG.due("more than 200 cents, behind 201 days", x.lasts(0, 1, 0, 200), -1);
    x.turn(1, 1);
    RIG.due("more than 0 cents now", x.lasts(0, 1, 0, 0), 0);
    RIG.due("as many cents now as are asked", x.lasts(0, 1, 0, 1), 3);
    // With a damp of 1, c breaks on the 200th day; with one more that it holds, on the 201st.
    x.setDamp(1);
    RIG.due("off by an octave now", x.lasts(0, 2, 3, 200), 0);
    RIG.due("silent behind 200 days", x.lasts(2, 3, 0, 200), 200);
    RIG.due("silent behind 200 days, the other way", x.lasts(3, 2, 0, 200), 200);
    ClaviTuner later = Rig.taught(strings.replace("2199", "2200"));
    later.setDamp(1);
    RIG.due("silent behind 201 days", later.lasts(2, 3, 0, 200), -1);
  }

  /** The highest pitch that sounds: a course at the 6000 that it holds, a key at 600 of it. */
  private static void highestBeats() {
    ClaviTuner x =
        Rig.taught(Rig.courses("a", 0, 0, 6000, "b", 0, 0, 6000) + Rig.keys("k", "a", 600, "l", "b", 0));
    x.string(0, 6000);
    RIG.due("its pitch", x.key(0, 2), 6600);
    RIG.due("off itself by an octave", x.off(0, 0, 3), -1200);
    RIG.due("beats with itself", x.beats(0, 0, 3), 1200 * (1414 * 32) / 2000);
    RIG.due("off the lowest", x.off(1, 0, 2), 6600 - 386);
    RIG.due("beats with the lowest", x.beats(0, 1, 2), (6600 - 386) * 1000 / 2000);
    RIG.due("its mean", (long) x.mean(), 3300);
  }
}
