/**
 * One object, used for nearly all of its 512 calls: lists are taught, with and without an error,
 * tunes carried out, courses turned and strung, and days go by. The answers were worked out by hand
 * from the document; behind all that is only asked the digest has to be the one ahead of it.
 */
final class LongRunTest {
  private static final Rig RIG = new Rig();
  private static final int MOST_CALLS = 512;
  private static final Class<?> NO_INDEX = IndexOutOfBoundsException.class;
  private static final Class<?> NO_ARGUMENT = IllegalArgumentException.class;
  private static final Class<?> NO_STATE = IllegalStateException.class;
  private static final int FIFTH = 0;
  private static final int FOURTH = 1;
  private static final int THIRD = 2;

  /** Keys c 0, d 1, g 2, e 3, b 4; v is broken at first. */
  private static final String FIRST_LIST =
      Rig.courses("s", 2400, 1, 2700, "t", 3100, 2, 3110, "u", 2780, 0, 2900, "v", 3000, 3, 2999)
          + Rig.keys("c", "s", 0, "d", "s", 200, "g", "t", 0, "e", "u", 0, "b", "v", 100)
          + "tune g from c fifth up less 2*day when not broken t;"
          + "tune e from c third up less gap c e-380;\n"
          + "tune d from g fourth down less max(-1,day) when day>0 or broken s;"
          + "tune b from e fifth up;";

  /** Keys k 0, l 1, m 2, n 3. */
  private static final String SECOND_LIST =
      Rig.courses("a", 1200, 0, 1500, "b", 1900, 1, 1905, "h", 10, 9, 600)
          + Rig.keys("k", "a", 0, "l", "b", 2, "m", "h", 380, "n", "h", 395)
          + "tune l from k fifth up less day/10-3;"
          + "tune k from m octave up less min(day,-day)/50 when [gap m k>=810 and pitch k<=1500];"
          + "tune m from l third down less 100*3 when not[broken b or day=53];";

  /** Keys c 0, g 1, d 2, a 3, e 4, b 5, fis 6, each on a course of its name. */
  private static final String THIRD_LIST =
      Rig.courses("c", 2000, 1, 2100, "g", 2600, 2, 3000, "d", 2200, 1, 3000, "a", 2900, 0, 3200)
          + Rig.courses("e", 2400, 3, 3000, "b", 3100, 9, 3300, "fis", 2600, 5, 3000)
          + Rig.keys("c", "c", 0, "g", "g", 0, "d", "d", 0, "a", "a", 0, "e", "e", 0, "b", "b", 0)
          + Rig.keys("fis", "fis", 0)
          + "tune g from c fifth up less day-57;tune d from g fourth down;"
          + "tune a from d fifth up less day-57;tune e from a fourth down;"
          + "tune b from e fifth up less day-57;tune fis from b fourth down;";

  private final ClaviTuner x = new ClaviTuner();
  private int calls = 0;

  public static void main(String[] args) {
    LongRunTest run = new LongRunTest();
    run.firstListIsTaught();
    run.firstListAsItSounds();
    run.whatTheFirstListWouldDo();
    run.firstListIsCarriedOut();
    run.threeDaysLater();
    run.wrongListsAndAStringThatBreaks();
    run.nearlyAllIsSilent();
    run.secondListIsTaught();
    run.secondListBreaksTwo();
    run.firstListAgain();
    run.thirdListIsTaught();
    run.thirdListIsCarriedOut();
    run.aCourseBreaksByTheDamp();
    run.nothingIsTold();
    if (run.calls > MOST_CALLS || run.calls < MOST_CALLS - 40) {
      RIG.tell("the run is of " + run.calls + " calls");
    }
    RIG.end();
  }

  private void due(String call, long want, Rig.Call made) {
    calls++;
    RIG.due("call " + calls + ": " + call, made.answer(), want);
  }

  /** What is asked changes nothing. */
  private void asks(String call, long want, Rig.Call made) {
    calls++;
    long before = x.digest();
    due(call, want, made);
    due("digest() behind " + call, before, () -> x.digest());
  }

  private void asksMean(double want) {
    calls += 3;
    long before = x.digest();
    RIG.dueDouble("call " + (calls - 1) + ": mean()", x.mean(), want);
    RIG.due("digest() behind mean()", x.digest(), before);
  }

  private void refused(String call, Class<?> exception, Rig.Call made) {
    calls += 5;
    RIG.refused(call, x, exception, made);
  }

  /** What count() tells from the 0 on. */
  private void counts(int... want) {
    for (int what = 0; what < want.length; what++) {
      int asked = what;
      due("count(" + what + ")", want[what], () -> x.count(asked));
    }
  }

  private void pitches(int... want) {
    for (int course = 0; course < want.length; course++) {
      int asked = course;
      due("course(" + course + ", 0)", want[course], () -> x.course(asked, 0));
    }
  }

  /** What key() tells of a key but for its course and at: pitch, fifth, third, how sour. */
  private void key(int key, int... want) {
    for (int i = 0; i < want.length; i++) {
      int what = 2 + i;
      due("key(" + key + ", " + what + ")", want[i], () -> x.key(key, what));
    }
  }

  /** What is told behind less now, whether it would be carried out, how often it was. */
  private void tune(int tune, int less, int now, int times) {
    due("tune(" + tune + ", 4)", less, () -> x.tune(tune, 4));
    due("tune(" + tune + ", 5)", now, () -> x.tune(tune, 5));
    due("tune(" + tune + ", 6)", times, () -> x.tune(tune, 6));
  }

  private void would(int... want) {
    for (int what = 0; what < want.length; what++) {
      int asked = what;
      asks("would(" + what + ")", want[what], () -> x.would(asked));
    }
  }

  private void fed(String text) {
    for (int i = 0; i < text.length(); i += 20) {
      int[] n = Rig.fiveNumbers(text, i);
      due("feed", i + 20, () -> x.feed(n[0], n[1], n[2], n[3], n[4]));
    }
    due("trim", text.length(), () -> x.trim(text.length()));
  }

  private void taught(String list) {
    fed(list);
    due("teach()", 0, () -> x.teach());
    due("errorAt()", -1, () -> x.errorAt());
  }

  /** All stays, but the tape is empty; the mark stands ahead of the token that is told. */
  private void taughtWrong(int error, String marked) {
    calls++;
    long before = x.digest();
    String list = Lists.unmarked(marked);
    fed(list);
    due("teach() of " + list, error, () -> x.teach());
    due("errorAt() of " + list, Lists.placeOf(marked), () -> x.errorAt());
    due("digest() behind " + list, before, () -> x.digest());
  }

  private void firstListIsTaught() {
    due("wolf()", -1, () -> x.wolf());
    due("sweetest()", -1, () -> x.sweetest());
    due("errorAt()", -1, () -> x.errorAt());
    taught(FIRST_LIST);
    // c g 700 and g d 700 are fifths, c e 380 is a third.
    counts(0, 0, 4, 1, 5, 4, 2, 1, 4, 6, 0);
    pitches(2400, 3100, 2780, 3000);
    due("course(3, 3)", 1, () -> x.course(3, 3));
    due("course(0, 4)", 2, () -> x.course(0, 4));
    key(0, 2400, 2, 2, 3, 6);
    key(2, 3100, 1, 2, -1, 0);
    key(4, -1, -1, 0, -1, 0);
    tune(2, 0, 0, 0);
    tune(3, 0, 0, 0);
  }

  private void firstListAsItSounds() {
    asks("off(0, 2, fifth)", -2, () -> x.off(0, 2, FIFTH));
    asks("off(2, 1, fourth)", 2, () -> x.off(2, 1, FOURTH));
    // c, at two octaves, is at 4000.
    asks("beats(0, 2, fifth)", 2 * 4000 / 2000, () -> x.beats(0, 2, FIFTH));
    asks("beats(3, 0, third)", 6 * 4000 / 2000, () -> x.beats(3, 0, THIRD));
    asks("wolf()", 0, () -> x.wolf());
    asks("triad(0)", 8, () -> x.triad(0));
    asks("triad(1)", -1, () -> x.triad(1));
    asks("sweetest()", 0, () -> x.sweetest());
    asksMean(2720.0);
  }

  private void whatTheFirstListWouldDo() {
    // g 3102 and e 2786: c g and c e pure, g d 698.
    would(4, 0, 2, 1, 2);
    asks("without(0)", 2 + 2, () -> x.without(0));
    asks("without(1)", 4 + 6, () -> x.without(1));
    // With n cents c g is n, g d 4 - n sour: up to 4 all are as sour.
    asks("temper()", 0, () -> x.temper());
    // g gets flatter by 1 each day against c and d, c against e.
    asks("lasts(0, 2, fifth, 1)", 0, () -> x.lasts(0, 2, FIFTH, 1));
    asks("lasts(0, 2, fifth, 20)", 19, () -> x.lasts(0, 2, FIFTH, 20));
    asks("lasts(1, 2, fourth, 2)", 5, () -> x.lasts(1, 2, FOURTH, 2));
    asks("lasts(0, 3, third, 193)", 200, () -> x.lasts(0, 3, THIRD, 193));
    asks("lasts(0, 3, third, 194)", -1, () -> x.lasts(0, 3, THIRD, 194));
  }

  private void firstListIsCarriedOut() {
    due("carry(0)", 1, () -> x.carry(0) ? 1 : 0);
    due("carry(2) on the day 0", 0, () -> x.carry(2) ? 1 : 0);
    due("carry(3) of a silent key", 0, () -> x.carry(3) ? 1 : 0);
    due("carry(1)", 1, () -> x.carry(1) ? 1 : 0);
    pitches(2400, 3102, 2786, 3000);
    refused("carry(4)", NO_INDEX, () -> x.carry(4) ? 1 : 0);
  }

  private void threeDaysLater() {
    due("setDamp(2)", 0, () -> x.setDamp(2));
    due("pass(3)", 0, () -> x.pass(3));
    pitches(2403, 3102, 2792, 3000);
    tune(0, 6, 1, 1);
    tune(1, 9, 1, 1);
    tune(2, 3, 1, 0);
    // g 2403 + 696, e 2403 + 377, d 3099 - 495.
    due("run()", 3, () -> x.run());
    pitches(2404, 3099, 2780, 3000);
  }

  private void wrongListsAndAStringThatBreaks() {
    taughtWrong(1, "course s pitch 1 slack 1 holds 1; key @on");
    taughtWrong(3, "course s pitch 1 slack 1 holds 1;key c on @c at 601;");
    due("string(3, 2000)", 3000, () -> x.string(3, 2000));
    tune(3, 0, 1, 0);
    // g 3100, e 2404 + 390, d 3100 - 495, b 2794 + 702: v, at 3396, breaks.
    due("run()", 4, () -> x.run());
    pitches(2405, 3100, 2794, 3396);
    due("count(3)", 1, () -> x.count(3));
    due("turn(0, 300), by which it breaks", 2705, () -> x.turn(0, 300));
    refused("turn of a broken course", NO_STATE, () -> x.turn(0, 0));
  }

  private void nearlyAllIsSilent() {
    would(0, 0, -1, 2, 0);
    due("run()", 0, () -> x.run());
    asksMean(2947.0);
    asks("triad(0)", -1, () -> x.triad(0));
    due("string(0, 2405)", 2705, () -> x.string(0, 2405));
    due("setDamp(-5)", 2, () -> x.setDamp(-5));
    due("pass(50)", 0, () -> x.pass(50));
    pitches(2105, 2750, 2544, 3396);
  }

  private void secondListIsTaught() {
    taught(SECOND_LIST);
    // The day and the damp stay; k l is pure, k m 390 an octave lower.
    counts(53, -5, 3, 0);
    key(0, 1200, 1, 0, 2, 4);
    tune(0, 2, 1, 0);
    tune(1, -1, 1, 0);
    tune(2, 100, 0, 0);
    // k would be 390 + 1201, more than its course holds.
    would(0, 0, -1, 1, 2);
    asks("without(1)", 2 + 4, () -> x.without(1));
    asks("sweetest()", 0, () -> x.sweetest());
    asksMean(974.25);
    // a gets flatter by 5, b by 6, h is at 0 from the next day on.
    asks("lasts(0, 1, fifth, 10)", 11, () -> x.lasts(0, 1, FIFTH, 10));
    asks("lasts(0, 2, fifth, 113)", 47, () -> x.lasts(0, 2, FIFTH, 113));
  }

  private void secondListBreaksTwo() {
    due("run()", 2, () -> x.run());
    pitches(1591, 1898, 10);
    refused("string(0, 1501)", NO_ARGUMENT, () -> x.string(0, 1501));
    due("string(0, 1500)", 1591, () -> x.string(0, 1500));
    due("turn(0, -300)", 1200, () -> x.turn(0, -300));
    due("pass(1)", 0, () -> x.pass(1));
    pitches(1195, 1892, 0);
    // l 1195 + 700, k 380 + 1201, m 1895 - 286: a and h break.
    due("run()", 3, () -> x.run());
    pitches(1581, 1893, 1229);
    due("count(3)", 2, () -> x.count(3));
    due("tune(2, 6)", 1, () -> x.tune(2, 6));
    asksMean(1895.0);
    taughtWrong(2, "course a pitch 1 slack 1 holds 1;key a on a at 9;key @a on b at 9;");
  }

  private void firstListAgain() {
    taught(FIRST_LIST);
    counts(54, -5, 4, 1);
    due("tune(0, 6)", 0, () -> x.tune(0, 6));
    due("setDamp(5)", -5, () -> x.setDamp(5));
    // t gets sharper by 3 each day and breaks on the fourth one.
    due("pass(5)", 1, () -> x.pass(5));
    pitches(2420, 3112, 2805, 3000);
  }

  private void thirdListIsTaught() {
    taught(THIRD_LIST);
    // Fifths d a, a e, e b and b g, 700 each; thirds c e and d g, 400 each.
    counts(59, 5, 7, 0, 7, 6, 4, 2, 8, 28);
    asks("triad(2)", 2 + 14, () -> x.triad(2));
    asks("wolf()", 2, () -> x.wolf());
    asksMean(17800.0 / 7.0);
    asks("without(0)", 12 + 48, () -> x.without(0));
    // With n cents there are three fifths n, and three thirds 22 - 2n sour.
    asks("temper()", 11, () -> x.temper());
  }

  private void thirdListIsCarriedOut() {
    due("run()", 6, () -> x.run());
    pitches(2000, 2700, 2202, 2902, 2404, 3104, 2606);
    key(2, 2202, 3, 2, 6, 18);
    asks("wolf()", 0, () -> x.wolf());
    asks("sweetest()", 1, () -> x.sweetest());
    // c is at 1587 * 2.
    asks("beats(0, 4, third)", 18 * 3174 / 2000, () -> x.beats(0, 4, THIRD));
    // c gets sharper by 2 against e, and breaks on the 26th day.
    asks("lasts(0, 4, third, 18)", 19, () -> x.lasts(0, 4, THIRD, 18));
    asks("lasts(0, 4, third, 40)", 26, () -> x.lasts(0, 4, THIRD, 40));
    asks("lasts(5, 6, fourth, 200)", 51, () -> x.lasts(5, 6, FOURTH, 200));
    taughtWrong(5, "course c pitch 1 slack 1 holds @6001;key c on q at 0;");
    taughtWrong(6, "course c pitch 1 slack 1 holds 1;key c on c at 0;tune c from @c third up;");
  }

  private void aCourseBreaksByTheDamp() {
    due("pass(30)", 1, () -> x.pass(30));
    pitches(2104);
    tune(0, 32, 0, 1);
    due("run()", 5, () -> x.run());
    pitches(2104, 2790, 2292, 2962, 2464, 3134, 2636);
    // Fifths of 702 and 670; thirds of 344, of 326 (e g, fis a) and of 358 (b d).
    counts(89, 5, 7, 1, 7, 6, 5, 5, 64, 232);
    asks("sweetest()", 5, () -> x.sweetest());
    due("string(0, 2100)", 2104, () -> x.string(0, 2100));
    asks("would(0)", 114, () -> x.would(0));
    asks("would(1)", 302, () -> x.would(1));
    asks("would(4)", 6, () -> x.would(4));
    asks("temper()", 11, () -> x.temper());
  }

  private void nothingIsTold() {
    due("teach() of nothing", 0, () -> x.teach());
    long digest = (809 * 31 + 89) * 31 + 5;
    for (int i = 0; i < 9; i++) {
      digest *= 31;
    }
    due("digest()", (digest * 31 - 1) * 31 - 1, () -> x.digest());
  }
}
