/**
 * Empty and full: nothing, as much as there can be, and one more; the sentence of the document
 * that is tested stands above its test.
 */
final class EmptyFullTest {
  private static final Rig RIG = new Rig();
  private static final int BLANKS = 0x20202020;

  public static void main(String[] args) {
    newObject();
    emptyTape();
    tapeOfBlanks();
    fullTape();
    fullTapeEndsTooSoon();
    cutTape();
    words();
    keywords();
    numbers();
    symbols();
    tokens();
    depthOfValues();
    depthOfTests();
    depthOfBoth();
    everyLimitAtOnce();
    oneTooMany();
    noFifthNoThird();
    noTriad();
    alone();
    allSilent();
    allBreak();
    noTunes();
    RIG.end();
  }

  /** "Creates a clavichord without courses, on the day 0."; "damp ... (0, at first)" */
  private static void newObject() {
    nothingIsThere("a new object", new ClaviTuner(), 0, 0);
    RIG.due("errorAt() of a new object", new ClaviTuner().errorAt(), -1);
  }

  private static void nothingIsThere(String what, ClaviTuner x, int day, int damp) {
    RIG.due("the day of " + what, x.count(0), day);
    RIG.due("the damp of " + what, x.count(1), damp);
    for (int i = 2; i <= 10; i++) {
      RIG.due("count(" + i + ") of " + what, x.count(i), 0);
    }
    int[] would = {0, 0, -1, 0, 0};
    for (int i = 0; i <= 4; i++) {
      RIG.due("would(" + i + ") of " + what, x.would(i), would[i]);
    }
    RIG.due("wolf() of " + what, x.wolf(), -1);
    RIG.due("sweetest() of " + what, x.sweetest(), -1);
    RIG.due("temper() of " + what, x.temper(), 0);
    RIG.dueDouble("mean() of " + what, x.mean(), 0.0);
    RIG.due("run() of " + what, x.run(), 0);
    RIG.due("pass() of " + what, x.pass(1), 0);
    RIG.due("the day then of " + what, x.count(0), day + 1);
  }

  /** "list = { line ";" }", "any number of times, also none"; "in the place of all ..." */
  private static void emptyTape() {
    ClaviTuner x = Rig.taught(Lists.full());
    x.setDamp(-4);
    x.pass(7);
    RIG.due("teach() of an empty tape", x.teach(), 0);
    RIG.due("errorAt() of an empty tape", x.errorAt(), -1);
    nothingIsThere("what an empty tape tells", x, 7, -4);
    RIG.due("teach() of an empty tape once more", x.teach(), 0);
    ClaviTuner first = new ClaviTuner();
    RIG.due("teach() of a tape that never was fed", first.teach(), 0);
    RIG.due("errorAt() then", first.errorAt(), -1);
    ClaviTuner cut = new ClaviTuner();
    Rig.feed(cut, "course");
    RIG.due("trim(0)", cut.trim(0), 0);
    RIG.due("teach() of a tape cut to nothing", cut.teach(), 0);
    RIG.due("trim(0) of an empty tape", cut.trim(0), 0);
  }

  /** "Blanks (32) and line ends (10) can stand between tokens, at the beginning and at the end" */
  private static void tapeOfBlanks() {
    ClaviTuner x = Rig.taught(Lists.full());
    RIG.due("teach() of blanks", Rig.teach(x, " \n\n  "), 0);
    nothingIsThere("what blanks tell", x, 0, 0);
    for (int i = 1; i <= 100; i++) {
      x.feed(BLANKS, BLANKS, BLANKS, BLANKS, BLANKS);
    }
    RIG.due("teach() of 2000 blanks", x.teach(), 0);
    RIG.due("errorAt() of 2000 blanks", x.errorAt(), -1);
    Lists.holds(RIG, " \n " + Lists.TWO + " \n ");
    for (char c : new char[] {0, 9, 11, 12, 13, 31, 33, 160}) {
      Lists.fails(RIG, 1, "@" + c + Lists.TWO);
      Lists.fails(RIG, 1, Lists.TWO + "@" + c);
    }
  }

  /** "The tape is a row of at most 2000 bytes"; "if there would be more than 2000" */
  private static void fullTape() {
    ClaviTuner x = new ClaviTuner();
    Rig.feed(x, Lists.padded(Lists.full(), 2000));
    RIG.due("bytes", x.count(10), 2000);
    RIG.refused("feed behind 2000", x, IllegalStateException.class, () -> x.feed(-1, -1, -1, -1, -1));
    RIG.due("trim(2000)", x.trim(2000), 2000);
    RIG.refused("trim(2001)", x, IllegalArgumentException.class, () -> x.trim(2001));
    RIG.due("teach() of 2000 bytes", x.teach(), 0);
    RIG.due("tunes", x.count(5), 24);
    RIG.due("bytes behind teach()", x.count(10), 0);
    RIG.due("feed behind teach()", x.feed(BLANKS, BLANKS, BLANKS, BLANKS, BLANKS), 20);
    ClaviTuner y = new ClaviTuner();
    Rig.feed(y, " ".repeat(1981));
    RIG.refused("feed behind 1981", y, IllegalStateException.class, () -> y.feed(0, 0, 0, 0, 0));
    RIG.due("trim(1980)", y.trim(1980), 1980);
    RIG.due("feed behind 1980", y.feed(BLANKS, BLANKS, BLANKS, BLANKS, BLANKS), 2000);
    RIG.refused("feed behind it", y, IllegalStateException.class, () -> y.feed(0, 0, 0, 0, 0));
  }

  /** "the end of the tape (at its length)" */
  private static void fullTapeEndsTooSoon() {
    String full = Lists.padded(Lists.full(), 2000);
    Lists.fails(RIG, 1, full.substring(0, 1999) + " @");
    Lists.fails(RIG, 1, full.substring(0, 1999) + "@");
    Lists.fails(RIG, 1, full.substring(0, 1999) + "@?");
    Lists.fails(RIG, 1, " ".repeat(1994) + "course@");
    Lists.fails(RIG, 1, " ".repeat(1993) + "course @");
    Lists.fails(RIG, 1, "course@");
    Lists.fails(RIG, 1, "course \n  @");
    Lists.fails(RIG, 1, "@c");
  }

  /** "Shortens the tape to its first bytes.": what was behind them is not read any more. */
  private static void cutTape() {
    String list = Lists.TWO + "tune k from l fifth up when 10 <= 1000000;";
    int[] cuts = {list.indexOf(" 1000000") + 7, list.indexOf("= 1"), list.indexOf("course b") + 6};
    String[] more = {" < 5;", " 5;", "s pitch 1 slack 1 holds 1;"};
    for (int i = 0; i < cuts.length; i++) {
      ClaviTuner x = new ClaviTuner();
      Rig.feed(x, list);
      x.trim(cuts[i]);
      int error = x.teach();
      RIG.due("errorAt() of the first " + cuts[i] + " bytes", x.errorAt(), cuts[i]);
      RIG.due("teach() of the first " + cuts[i] + " bytes", error, 1);
      ClaviTuner again = new ClaviTuner();
      Rig.feed(again, list);
      again.trim(cuts[i]);
      Rig.feed(again, more[i]);
      ClaviTuner whole = new ClaviTuner();
      RIG.due("teach() with other bytes behind", again.teach(), Rig.teach(whole, list.substring(0, cuts[i]) + more[i]));
      RIG.due("errorAt() then", again.errorAt(), whole.errorAt());
    }
    // Ten of the eleven bytes are a word, six of the seven digits a number.
    ClaviTuner word = new ClaviTuner();
    Rig.feed(word, "course abcdefghijk");
    word.trim(17);
    Rig.feed(word, " pitch 4801000");
    word.trim(27);
    Rig.feed(word, " slack 0 holds 6000;");
    RIG.due("teach() of what was cut twice", word.teach(), 0);
    RIG.due("the number that was cut", word.course(0, 0), 480);
  }

  /** "A word: a letter a to z, followed by letters a to z and digits, at most 10 bytes." */
  private static void words() {
    for (String word : new String[] {"a", "z", "a0", "z9", "abcdefghij", "zyxwvutsrq", "a123456789"}) {
      Lists.holds(RIG, "course " + word + " pitch 0 slack 0 holds 0;");
      Lists.holds(RIG, "course " + word + " pitch 0 slack 0 holds 0;key " + word + " on " + word + " at 0;");
    }
    for (String word : new String[] {"abcdefghijk", "a1234567890", "coursecours", "abcdefghijklmnopqrstuvwxyz"}) {
      Lists.fails(RIG, 1, "course @" + word + " pitch 0 slack 0 holds 0;");
      Lists.fails(RIG, 1, "@" + word + " a");
      Lists.fails(RIG, 1, "course a @" + word);
    }
    // A name is another one, if just its tenth byte is.
    Lists.holds(RIG, Rig.courses("abcdefghij", 0, 0, 0, "abcdefghik", 0, 0, 0, "abcdefghi", 0, 0, 0));
    Lists.fails(RIG, 2, Rig.courses("abcdefghij", 0, 0, 0) + Rig.courses("@abcdefghij", 0, 0, 0));
  }

  /** "All other words are names." */
  private static void keywords() {
    for (String keyword : Lists.KEYWORDS) {
      Lists.fails(RIG, 1, "course @" + keyword + " pitch 0 slack 0 holds 0;");
      Lists.fails(RIG, 1, "course a pitch 0 slack 0 holds 0;key @" + keyword + " on a at 0;");
      for (String name : new String[] {keyword + "s", keyword + "0", keyword.substring(0, 1), "x" + keyword}) {
        Lists.holds(RIG, "course " + name + " pitch 0 slack 0 holds 0;");
      }
      if (!keyword.equals("course") && !keyword.equals("key") && !keyword.equals("tune")) {
        Lists.fails(RIG, 1, "@" + keyword + " a");
      }
    }
  }

  /** "A number: 1 to 6 digits." */
  private static void numbers() {
    String head = "course a pitch 0 slack 0 holds ";
    for (String number : new String[] {"0", "7", "00", "000000", "006000", "6000"}) {
      Lists.holds(RIG, head + number + ";");
    }
    Lists.holds(RIG, Lists.TWO + "tune k from l fifth up less 999999;");
    for (String number : new String[] {"0000000", "0006000", "1000000", "00000000000000000000"}) {
      Lists.fails(RIG, 1, head + "@" + number + ";");
      Lists.fails(RIG, 1, Lists.TWO + "tune k from l fifth up less @" + number + ";");
    }
    // The longest possible number is read, not six digits and one more.
    Lists.fails(RIG, 1, Lists.TWO + "tune k from l fifth up less 1+@9999999");
    Lists.holds(RIG, "course a pitch 0slack 0holds 0;");
  }

  /** "The longest possible token is always read." */
  private static void symbols() {
    String tune = Lists.TWO + "tune k from l fifth up when 1";
    for (String relation : new String[] {"<", ">", "=", "<=", ">="}) {
      Lists.holds(RIG, tune + relation + "1;");
      Lists.holds(RIG, tune + " " + relation + " 1;");
      Lists.fails(RIG, 1, tune + relation + " @=1;");
      Lists.fails(RIG, 1, tune + relation + " @<=1;");
    }
    Lists.fails(RIG, 1, tune + "<=@=1;");
    Lists.fails(RIG, 1, tune + "<@>1;");
    Lists.fails(RIG, 1, tune + "=@<1;");
    Lists.fails(RIG, 1, tune + "=@=1;");
  }

  /** A list of so many tokens, 41 or more. */
  private static String ofTokens(int tokens) {
    StringBuilder s = new StringBuilder(Lists.TWO + "tune k from l fifth up less ");
    int left = tokens - 41;
    s.append(left % 2 == 1 ? "-1" : "1");
    for (int i = left % 2; i < left; i += 2) {
      s.append("+1");
    }
    return s.append(";").toString();
  }

  /** "the token that would be the 401st (the end of the tape not counted)" */
  private static void tokens() {
    for (int tokens : new int[] {41, 42, 399, 400}) {
      Lists.holds(RIG, ofTokens(tokens));
      Lists.holds(RIG, ofTokens(tokens) + " \n");
    }
    String full = ofTokens(400);
    Lists.fails(RIG, 1, full + "@course z pitch 0 slack 0 holds 0;");
    Lists.fails(RIG, 1, full + "  @;");
    Lists.fails(RIG, 1, full + "  @?");
    Lists.fails(RIG, 1, full + "\n@1234567");
    for (int tokens = 401; tokens <= 403; tokens++) {
      String list = ofTokens(tokens);
      // Behind the 400th token there is just the ; or the ends of the sum.
      int place = list.length() - (tokens - 400);
      Lists.fails(RIG, 1, list.substring(0, place) + "@" + list.substring(place));
    }
    String open = ofTokens(401);
    Lists.fails(RIG, 1, open.substring(0, open.length() - 1) + "@");
    // Error 1 is told, although there is a wrong name far ahead of the 401st token.
    String wrong = Lists.TWO + "tune k from l fifth up less pitch ";
    Lists.fails(RIG, 3, wrong + "@x" + "+1".repeat(179) + ";");
    Lists.fails(RIG, 3, wrong + "@x/-1" + "+1".repeat(177) + ";");
    Lists.fails(RIG, 1, wrong + "x/-1" + "+1".repeat(178) + "@;");
    Lists.fails(RIG, 1, wrong + "x" + "+1".repeat(179) + "+@1;");
  }

  /** "1 greater between a ( and its ) ..., behind a - in front (of a value) for what it turns" */
  private static void depthOfValues() {
    String less = Lists.TWO + "tune k from l fifth up less ";
    for (int depth = 0; depth <= 8; depth++) {
      Lists.holds(RIG, less + "(".repeat(depth) + "1" + ")".repeat(depth) + ";");
      Lists.holds(RIG, less + "-".repeat(depth) + "1;");
      Lists.holds(RIG, less + "min(".repeat(depth) + "1" + ",2)".repeat(depth) + ";");
      Lists.holds(RIG, less + "max(1,".repeat(depth) + "2" + ")".repeat(depth) + ";");
      Lists.holds(RIG, less + "-".repeat(depth) + "(".repeat(8 - depth) + "1" + ")".repeat(8 - depth) + ";");
    }
    Lists.fails(RIG, 1, less + "(".repeat(8) + "@(1" + ")".repeat(9) + ";");
    Lists.fails(RIG, 1, less + "-".repeat(8) + "@-1;");
    Lists.fails(RIG, 1, less + "min(".repeat(8) + "min@(1" + ",2)".repeat(9) + ";");
    Lists.fails(RIG, 1, less + "max(1,".repeat(8) + "max@(1,2" + ")".repeat(9) + ";");
    Lists.fails(RIG, 1, less + "(".repeat(8) + "@-1" + ")".repeat(8) + ";");
    Lists.fails(RIG, 1, less + "-".repeat(8) + "@(1);");
    Lists.fails(RIG, 1, less + "-".repeat(8) + "max@(1,2);");
    Lists.fails(RIG, 1, less + "-(".repeat(4) + "@-1" + ")".repeat(4) + ";");
    // A - between two values is none in front; what is closed or turned counts no more.
    Lists.holds(RIG, less + "(".repeat(8) + "1-1" + ")".repeat(8) + "-1;");
    Lists.holds(RIG, less + "-".repeat(8) + "1-" + "-".repeat(8) + "1*" + "-".repeat(8) + "1;");
    Lists.holds(RIG, less + "(".repeat(8) + "1" + ")".repeat(8) + "/" + "(".repeat(8) + "1" + ")".repeat(8) + ";");
    Lists.holds(RIG, less + "min(" + "-".repeat(7) + "1," + "(".repeat(7) + "1" + ")".repeat(8) + ";");
    Lists.holds(RIG, less + "1+".repeat(60) + "1;");
  }

  /** "between ... a [ and its ], ... and behind a not for what it turns. It may be at most 8." */
  private static void depthOfTests() {
    String when = Lists.TWO + "tune k from l fifth up when ";
    for (int depth = 0; depth <= 8; depth++) {
      Lists.holds(RIG, when + "[".repeat(depth) + "1=1" + "]".repeat(depth) + ";");
      Lists.holds(RIG, when + "not ".repeat(depth) + "1=1;");
      Lists.holds(RIG, when + "not ".repeat(depth) + "broken a;");
      Lists.holds(RIG, when + "[".repeat(depth) + "not ".repeat(8 - depth) + "1=1" + "]".repeat(depth) + ";");
      Lists.holds(RIG, when + "[".repeat(depth) + "-".repeat(8 - depth) + "1=1" + "]".repeat(depth) + ";");
    }
    Lists.fails(RIG, 1, when + "[".repeat(8) + "@[1=1" + "]".repeat(9) + ";");
    Lists.fails(RIG, 1, when + "not ".repeat(8) + "@not 1=1;");
    Lists.fails(RIG, 1, when + "[".repeat(8) + "@not 1=1" + "]".repeat(8) + ";");
    Lists.fails(RIG, 1, when + "not ".repeat(8) + "@[1=1];");
    Lists.fails(RIG, 1, when + "not [".repeat(4) + "@not 1=1" + "]".repeat(4) + ";");
    // What is closed or turned counts no more; not turns just one single.
    Lists.holds(RIG, when + "[".repeat(8) + "1=1" + "]".repeat(8) + " and " + "[".repeat(8) + "1=1" + "]".repeat(8) + ";");
    Lists.holds(RIG, when + "not ".repeat(8) + "1=1 and " + "not ".repeat(8) + "1=1 or " + "not ".repeat(8) + "1=1;");
    Lists.holds(RIG, when + "1=1 and ".repeat(40) + "1=1;");
    Lists.holds(RIG, when + "1=1 or ".repeat(40) + "1=1;");
  }

  private static void depthOfBoth() {
    String tune = Lists.TWO + "tune k from l fifth up ";
    String eight = "(".repeat(8) + "1" + ")".repeat(8);
    Lists.holds(RIG, tune + "less " + eight + " when " + eight + "=" + eight + ";");
    Lists.holds(RIG, tune + "less --------1 when not not not not not not not not 1=1;");
    Lists.fails(RIG, 1, tune + "when " + "[".repeat(8) + "@-1=1" + "]".repeat(8) + ";");
    Lists.fails(RIG, 1, tune + "when " + "[".repeat(8) + "1=@(1)" + "]".repeat(8) + ";");
    Lists.fails(RIG, 1, tune + "when " + "not ".repeat(8) + "1=min@(1,2);");
    Lists.fails(RIG, 1, tune + "when " + "not ".repeat(4) + "(".repeat(4) + "@-1" + ")".repeat(4) + "=1;");
    Lists.holds(RIG, tune + "when " + "not ".repeat(4) + "(".repeat(3) + "-1" + ")".repeat(3) + "=1;");
    Lists.holds(RIG, tune + "less " + eight + ";tune l from k fifth up less " + eight + ";");
  }

  /** 8 courses, 20 keys, 24 tunes, 400 tokens, 2000 bytes: each can be asked and used. */
  private static void everyLimitAtOnce() {
    ClaviTuner x = Rig.taught(Lists.padded(Lists.full(), 2000));
    RIG.due("courses", x.count(2), 8);
    RIG.due("keys", x.count(4), 20);
    RIG.due("tunes", x.count(5), 24);
    RIG.due("pitch of the 8th course", x.course(7, 0), 1700);
    RIG.due("course of the 20th key", x.key(19, 0), 3);
    RIG.due("key of the 24th tune", x.tune(23, 0), 0);
    RIG.due("would(4)", x.would(4), 24);
    RIG.due("carry of the 24th tune", x.carry(23) ? 1 : 0, 1);
    // k7 at 1700 gives k0 1202, by a fourth down.
    RIG.due("the key of the 24th tune", x.key(0, 2), 1202);
    RIG.due("run()", x.run(), 24);
    for (int tune = 0; tune < 24; tune++) {
      RIG.due("how often tune " + tune, x.tune(tune, 6), tune == 23 ? 2 : 1);
    }
    RIG.due("turn of the 8th course", x.turn(7, 0), x.course(7, 0));
    boolean triad = x.key(19, 3) >= 0 && x.key(19, 5) >= 0;
    RIG.due("triad of the 20th key", x.triad(19), triad ? x.key(19, 4) + x.key(19, 6) : -1);
    Lists.fails(RIG, 1, Lists.full() + "@course z pitch 0 slack 0 holds 0;");
  }

  /** "Error 4: the name of the 9th course or of the 21st key, or the tune of the 25th tune." */
  private static void oneTooMany() {
    Lists.holds(RIG, Lists.eightCourses());
    Lists.fails(RIG, 4, Lists.eightCourses() + Rig.courses("@z", 0, 0, 0));
    Lists.fails(RIG, 4, Lists.eightCourses() + Rig.courses("@z", 9999, 99, 9999));
    Lists.fails(RIG, 2, Lists.eightCourses() + Rig.courses("@c7", 0, 0, 0));
    String keys = Lists.eightCourses() + Lists.twentyKeys();
    Lists.holds(RIG, keys);
    Lists.fails(RIG, 4, keys + Rig.keys("@z", "c0", 0));
    Lists.fails(RIG, 4, keys + Rig.keys("@z", "z", 601));
    Lists.fails(RIG, 2, keys + Rig.keys("@k19", "c0", 0));
    String tunes = keys + Lists.twentyFourTunes().replace(" less 1", "");
    Lists.holds(RIG, tunes);
    Lists.fails(RIG, 4, tunes + "@tune k0 from k1 fifth up;");
    Lists.fails(RIG, 4, tunes + "@tune x from x fifth up;");
    Lists.fails(RIG, 4, tunes + "@tune k0 from k0 fifth up;");
    // The bounds do not add up: a list can have one more of another sort.
    Lists.holds(RIG, Lists.eightCourses() + Rig.keys("c0", "c0", 0, "c1", "c1", 0) + "tune c0 from c1 octave up;");
  }

  /** "no key with a fifth, with a third": "-1 without one", "0 without one" */
  private static void noFifthNoThird() {
    ClaviTuner x = Rig.taught(Rig.courses("a", 1000, 0, 6000, "b", 1100, 0, 6000) + Rig.keys("k", "a", 0, "l", "b", 0));
    for (int key = 0; key < 2; key++) {
      RIG.due("fifth of " + key, x.key(key, 3), -1);
      RIG.due("how sour it is", x.key(key, 4), 0);
      RIG.due("third of " + key, x.key(key, 5), -1);
      RIG.due("how sour it is", x.key(key, 6), 0);
      RIG.due("triad of " + key, x.triad(key), -1);
    }
    for (int what = 6; what <= 9; what++) {
      RIG.due("count(" + what + ")", x.count(what), 0);
    }
    RIG.due("wolf()", x.wolf(), -1);
    RIG.due("would(2)", x.would(2), -1);
    RIG.due("sweetest()", x.sweetest(), -1);
    x.turn(1, 600);
    RIG.due("wolf() of a pure one, 2 away", x.wolf(), 0);
    RIG.due("would(2)", x.would(2), 0);
  }

  /** "Returns how sour its triad is; -1 if it has none."; "-1 if there is none" */
  private static void noTriad() {
    String three = Rig.courses("a", 1000, 0, 6000, "b", 1702, 0, 6000, "c", 1386, 0, 6000);
    ClaviTuner pure = Rig.taught(three + Rig.keys("k", "a", 0, "l", "b", 0, "m", "c", 0));
    RIG.due("a pure triad", pure.triad(0), 0);
    RIG.due("sweetest()", pure.sweetest(), 0);
    ClaviTuner fifth = Rig.taught(three + Rig.keys("k", "a", 0, "l", "b", 0));
    RIG.due("a fifth without a third", fifth.triad(0), -1);
    RIG.due("sweetest() of it", fifth.sweetest(), -1);
    RIG.due("wolf() of it", fifth.wolf(), 0);
    ClaviTuner third = Rig.taught(three + Rig.keys("k", "a", 0, "m", "c", 0));
    RIG.due("a third without a fifth", third.triad(0), -1);
    RIG.due("sweetest() of it", third.sweetest(), -1);
    RIG.due("wolf() of it", third.wolf(), -1);
    // One key has the fifth, another one the third: there is no triad.
    ClaviTuner apart = Rig.taught(three + Rig.keys("k", "a", 0, "l", "b", 0, "h", "c", 600, "n", "b", 98));
    RIG.due("keys with a fifth", apart.count(6), 1);
    RIG.due("triad of the one with a fifth", apart.triad(0), -1);
  }

  /** "of all other keys": a key alone, and a key with itself */
  private static void alone() {
    ClaviTuner x = Rig.taught(Rig.courses("a", 1000, 0, 6000) + Rig.keys("k", "a", 0));
    RIG.due("fifth", x.key(0, 3), -1);
    RIG.due("third", x.key(0, 5), -1);
    RIG.due("wolf()", x.wolf(), -1);
    RIG.dueDouble("mean()", x.mean(), 1000.0);
    RIG.due("off itself", x.off(0, 0, 0), -702);
    RIG.due("lasts with itself", x.lasts(0, 0, 2, 200), 0);
    RIG.due("temper()", x.temper(), 0);
  }

  /** "0 if one of them is silent", "0 without any": no key that is not silent */
  private static void allSilent() {
    String list =
        Rig.courses("a", 1001, 2, 1000, "b", 1703, 1, 1700, "c", 1387, 0, 1386)
            + Rig.keys("k", "a", 0, "l", "b", 0, "m", "c", 0, "n", "a", 600)
            + "tune l from k fifth up;tune k from m third down less pitch k + 5;";
    ClaviTuner x = Rig.taught(list);
    RIG.due("broken", x.count(3), 3);
    for (int what = 6; what <= 9; what++) {
      RIG.due("count(" + what + ") of silent keys", x.count(what), 0);
    }
    RIG.dueDouble("mean() of silent keys", x.mean(), 0.0);
    RIG.due("wolf() of silent keys", x.wolf(), -1);
    RIG.due("sweetest() of silent keys", x.sweetest(), -1);
    RIG.due("temper() of silent keys", x.temper(), 0);
    RIG.due("run() of silent keys", x.run(), 0);
    int[] would = {0, 0, -1, 3, 0};
    for (int what = 0; what <= 4; what++) {
      RIG.due("would(" + what + ") of silent keys", x.would(what), would[what]);
    }
    RIG.due("without(0) of silent keys", x.without(0), 0);
    RIG.due("pass() of silent keys", x.pass(3), 0);
    for (int key = 0; key < 4; key++) {
      RIG.due("pitch of the silent key " + key, x.key(key, 2), -1);
      RIG.due("fifth of the silent key " + key, x.key(key, 3), -1);
      RIG.due("third of the silent key " + key, x.key(key, 5), -1);
      RIG.due("triad of the silent key " + key, x.triad(key), -1);
      RIG.due("off of the silent key " + key, x.off(key, 0, 3), 0);
      RIG.due("beats of the silent key " + key, x.beats(key, 0, 3), 0);
      RIG.due("lasts of the silent key " + key, x.lasts(key, 0, 3, 200), 0);
    }
    // One that sounds is alone: what is silent is no fifth of it, and it is none of theirs.
    x.string(0, 1000);
    RIG.dueDouble("mean() of what sounds", x.mean(), 1300.0);
    RIG.due("no fifth that is silent", x.key(0, 3), -1);
    RIG.due("off of one silent key", x.off(0, 1, 0), 0);
    RIG.due("off of one silent key, the other way", x.off(1, 0, 0), 0);
    RIG.due("beats of one silent key", x.beats(0, 1, 3), 0);
    RIG.due("lasts of one silent key", x.lasts(0, 1, 0, 200), 0);
    RIG.due("run() with one that is silent of both", x.run(), 0);
  }

  /** "Returns how many courses break in them.": none, all, and none that was broken before */
  private static void allBreak() {
    StringBuilder s = new StringBuilder();
    for (int i = 0; i < 8; i++) {
      s.append(Rig.courses("c" + i, 100, 0, 104));
    }
    ClaviTuner x = Rig.taught(s.toString());
    RIG.due("pass() with a damp of 0", x.pass(120), 0);
    x.setDamp(1);
    RIG.due("pass(), to what they hold", x.pass(4), 0);
    RIG.due("broken", x.count(3), 0);
    x.turn(3, -1);
    RIG.due("pass(), beyond", x.pass(1), 7);
    RIG.due("broken", x.count(3), 7);
    RIG.due("pass(), the last one", x.pass(120), 1);
    RIG.due("broken", x.count(3), 8);
    RIG.due("pitch of the last one", x.course(3, 0), 105);
    RIG.due("pass() of broken ones", x.pass(120), 0);
    RIG.due("broken", x.count(3), 8);
    x.string(5, 104);
    RIG.due("broken with new strings on one", x.count(3), 7);
    RIG.due("pass(), the one with new strings", x.pass(2), 1);
  }

  /** No tunes, but keys: what is as it is now, is so behind no tunes, too. */
  private static void noTunes() {
    ClaviTuner x = Rig.taught(Rig.courses("a", 1000, 0, 6000, "b", 1710, 0, 6000) + Rig.keys("k", "a", 0, "l", "b", 0));
    RIG.due("run()", x.run(), 0);
    RIG.due("would(0)", x.would(0), 8);
    RIG.due("would(2)", x.would(2), 0);
    RIG.due("would(4)", x.would(4), 0);
    RIG.due("temper()", x.temper(), 0);
    RIG.refused("carry(0)", x, IndexOutOfBoundsException.class, () -> x.carry(0) ? 1 : 0);
    RIG.refused("without(0)", x, IndexOutOfBoundsException.class, () -> x.without(0));
    RIG.refused("tune(0, 0)", x, IndexOutOfBoundsException.class, () -> x.tune(0, 0));
    ClaviTuner one = Rig.taught(Rig.courses("a", 1000, 0, 6000, "b", 1710, 0, 6000) + Rig.keys("k", "a", 0, "l", "b", 0) + "tune l from k fifth up;");
    RIG.due("without the only tune", one.without(0), 8);
    RIG.due("with the only tune", one.would(0), 0);
    ClaviTuner noKeys = Rig.taught(Rig.courses("a", 1000, 0, 6000));
    RIG.due("keys of a course without keys", noKeys.course(0, 4), 0);
    RIG.dueDouble("mean() without keys", noKeys.mean(), 0.0);
    RIG.refused("key(0, 0)", noKeys, IndexOutOfBoundsException.class, () -> noKeys.key(0, 0));
    RIG.refused("triad(0)", noKeys, IndexOutOfBoundsException.class, () -> noKeys.triad(0));
  }
}
