/** Promise 4: teach, by the grammar, the depth and the errors of "1. The language". */
final class TeachTest {
  private static final Rig RIG = new Rig();
  private static final String TWO =
      Rig.courses("a", 100, 1, 900, "b", 200, 1, 900) + Rig.keys("k", "a", 0, "l", "b", 0);

  public static void main(String[] args) {
    lists();
    tokens();
    firstTokenThatDoesNotFit();
    depth();
    numberOfTokens();
    toldTwice();
    notTold();
    tooMany();
    outOfRange();
    sameCourse();
    firstOfTheErrors();
    whatStays();
    RIG.end();
  }

  /** The text has this error at the first byte of mark's last place in it, or at its end. */
  private static void fails(int error, String text, String mark) {
    ClaviTuner x = new ClaviTuner();
    RIG.due("teach of " + text, Rig.teach(x, text), error);
    int at = mark.isEmpty() ? text.length() : text.lastIndexOf(mark);
    RIG.due("errorAt() of " + text, x.errorAt(), at);
    RIG.due("tape behind " + text, x.count(10), 0);
    RIG.due("courses behind " + text, x.count(2), 0);
    RIG.due("keys behind " + text, x.count(4), 0);
    RIG.due("tunes behind " + text, x.count(5), 0);
  }

  private static void holds(String text) {
    ClaviTuner x = new ClaviTuner();
    RIG.due("teach of " + text, Rig.teach(x, text), 0);
    RIG.due("errorAt() of " + text, x.errorAt(), -1);
    RIG.due("tape behind " + text, x.count(10), 0);
  }

  private static void lists() {
    holds("");
    holds(" \n ");
    holds("course a pitch 0 slack 0 holds 0;");
    holds(TWO);
    for (String interval : new String[] {"fifth", "fourth", "third", "octave"}) {
      holds(TWO + "tune k from l " + interval + " up;tune l from k " + interval + " down;");
    }
    holds(TWO + "tune k from l fifth up less 1 when day<1;");
    holds(TWO + "tune k from l fifth up when day<1;");
    String[] sums = {
      "0", "999999", "day", "pitch k", "gap k l", "-1", "(1)", "min(1,2)", "max(day,pitch l)",
      "1+2-3*4/5", "-day*-pitch k", "((1))", "1 - -1", "min(max(1,2),3)+gap l k",
    };
    for (String sum : sums) {
      holds(TWO + "tune k from l fifth up less " + sum + ";");
      holds(TWO + "tune k from l fifth up when " + sum + "<=" + sum + ";");
    }
    String[] tests = {
      "1<2", "1>2", "1=2", "1<=2", "1>=2", "broken a", "not broken a", "not not 1=1",
      "[1=1]", "not [1=1 or broken b]", "1=1 and 2=2 or 3=3 and broken a", "[[broken b]]",
      "(1)+2=3",
    };
    for (String test : tests) {
      holds(TWO + "tune k from l fifth up when " + test + ";");
    }
  }

  private static void tokens() {
    holds("course\na\npitch\n1 slack 1 holds 1 ;\n");
    holds("course abcdefghij pitch 000001 slack 000009 holds 006000;");
    fails(1, "course abcdefghijk pitch 1 slack 1 holds 1;", "abc");
    fails(1, "course a pitch 0000001 slack 1 holds 1;", "0000001");
    // The longest token is read: 1slack is a number and a word, pitch1 a word of its own.
    holds("course a pitch 1slack 1holds 1;");
    fails(1, "course a pitch1 slack 1 holds 1;", "pitch1");
    holds("course a1 pitch 1 slack 1 holds 1;");
    fails(1, "course 1a pitch 1 slack 1 holds 1;", "1a");
    holds("course courses pitch 1 slack 1 holds 1;");
    fails(1, "course course pitch 1 slack 1 holds 1;", "course p");
    fails(1, "course day pitch 1 slack 1 holds 1;", "day");
    fails(1, "course min pitch 1 slack 1 holds 1;", "min");
    String tune = TWO + "tune k from l fifth up when ";
    holds(tune + "1<=2;");
    fails(1, tune + "1< =2;", "=");
    fails(1, tune + "1=<2;", "<");
    fails(1, tune + "1==2;", "=2");
    fails(1, tune + "1<>2;", ">");
    fails(1, tune + "1> =2;", "=");
    for (char c : new char[] {0, 9, 13, '!', '.', ':', '?', '@', 'A', 'Z', '_', '`', '{', 127, 128, 160, 255}) {
      fails(1, "course " + c, "" + c);
      fails(1, "" + c, "" + c);
      fails(1, "course a" + c, "" + c);
    }
  }

  private static void firstTokenThatDoesNotFit() {
    String line = "course a pitch 1 slack 1 holds 1;";
    fails(1, "course", "");
    fails(1, "course  ", "");
    fails(1, "course a pitch 1 slack 1 holds 1", "");
    fails(1, line + line.replace("course", "curse"), "curse");
    fails(1, line + ";", ";");
    fails(1, "course a 1", "1");
    fails(1, "course a pitch a", "a");
    fails(1, "course a pitch -1", "-");
    fails(1, "course a pitch 1 holds", "holds");
    fails(1, "course a pitch 1 slack 1 slack", "slack");
    fails(1, "key k a", "a");
    fails(1, "key k on a at k", "k");
    fails(1, "key k on a at 1 slack", "slack");
    String tune = "tune k from l fifth up ";
    fails(1, TWO + "tune fifth", "fifth");
    fails(1, TWO + "tune k less", "less");
    fails(1, TWO + "tune k from l sixth", "sixth");
    fails(1, TWO + "tune k from l up", "up");
    fails(1, TWO + "tune k from l third ;", ";");
    fails(1, TWO + tune + "up", "up");
    fails(1, TWO + tune + "when 1<2 less", "less");
    fails(1, TWO + tune + "less when", "when");
    fails(1, TWO + tune + "less broken", "broken");
    fails(1, TWO + tune + "less 1 < 2", "<");
    fails(1, TWO + tune + "less + 1", "+");
    fails(1, TWO + tune + "less 1 + ;", ";");
    fails(1, TWO + tune + "less 1 2", "2");
    fails(1, TWO + tune + "less (1", "");
    fails(1, TWO + tune + "less (1]", "]");
    fails(1, TWO + tune + "less ()", ")");
    fails(1, TWO + tune + "less min 1", "1");
    fails(1, TWO + tune + "less min(1)", ")");
    fails(1, TWO + tune + "less max(1,2,", ",");
    fails(1, TWO + tune + "less max(1,2;", ";");
    fails(1, TWO + tune + "less gap k ;", ";");
    fails(1, TWO + tune + "less pitch 1", "1");
    fails(1, TWO + tune + "when ;", ";");
    fails(1, TWO + tune + "when 1;", ";");
    fails(1, TWO + tune + "when 1 2;", "2");
    fails(1, TWO + tune + "when day pitch k;", "pitch");
    fails(1, TWO + tune + "when day and 1 = 1;", "and");
    fails(1, TWO + tune + "when (1<2)", "<");
    fails(1, TWO + tune + "when [1];", "]");
    fails(1, TWO + tune + "when 1<2<3", "<");
    fails(1, TWO + tune + "when [1<2", "");
    fails(1, TWO + tune + "when broken a < 1", "<");
    fails(1, TWO + tune + "when not 1;", ";");
    fails(1, TWO + tune + "when 1<2 and;", ";");
    fails(1, TWO + tune + "when 1<2 or or", "or");
    fails(1, TWO + tune + "when 1<2 not", "not");
  }

  private static void depth() {
    String tune = TWO + "tune k from l fifth up ";
    String eight = "((((((((";
    holds(tune + "less " + eight + "1" + "))))))))" + ";");
    fails(1, tune + "less " + eight + "(1", "(");
    fails(1, tune + "less " + eight + "-1", "-");
    fails(1, tune + "less " + eight + "min(1", "(");
    holds(tune + "less --------1;");
    fails(1, tune + "less ---------1;", "-1");
    fails(1, tune + "less -------- (", "(");
    holds(tune + "less -------1-1-1*(-1);");
    holds(tune + "when not not not not not not not not broken a and not broken b;");
    fails(1, tune + "when not not not not not not not not not broken a;", "not");
    holds(tune + "when [[[[[[[[1=1]]]]]]]] or [[1=1]];");
    fails(1, tune + "when [[[[[[[[[1=1", "[");
    fails(1, tune + "when [[[[[[[[not", "not");
    fails(1, tune + "when [[[[[[[[1-1=-", "-");
    holds(tune + "when [not [not -(-min(1,2))=-1]];");
    fails(1, tune + "when [not [not -(-min(1,-2))=-1]];", "-2");
    fails(1, tune + "when [not [not -(-max(1,(", "(");
    holds(tune + "less max(1,max(1,max(1,max(1,max(1,max(1,max(1,max(1,2))))))))+(((1)));");
    fails(1, tune + "less max(max(max(max(max(max(max(max(max(1", "(");
    // What an operation joins is no deeper than the operation.
    holds(tune + "less 1+1+1+1+1+1+1+1+1+1+1*1*1*1*1*1*1*1*1*1*1*1;");
    holds(tune + "when 1=1 and 1=1 and 1=1 and 1=1 and 1=1 and 1=1 and 1=1 and 1=1 and 1=1 or 1=1;");
  }

  /** Tells a list of so many tokens, more than 40. */
  private static String ofTokens(int tokens) {
    StringBuilder s = new StringBuilder(TWO);
    // 32 tokens tell courses and keys, 9 the tune with its ;, and +1 is two more.
    s.append("tune k from l fifth up less 1");
    int left = tokens - 41;
    if (left % 2 == 1) {
      s.insert(s.length() - 1, "-");
      left--;
    }
    for (int i = 0; i < left; i += 2) {
      s.append("+1");
    }
    return s.append(";").toString();
  }

  private static void numberOfTokens() {
    holds(ofTokens(399));
    holds(ofTokens(400));
    holds(ofTokens(400) + "  \n ");
    fails(1, ofTokens(401), ";");
    fails(1, ofTokens(402), "1;");
    fails(1, ofTokens(400) + "  ?", "?");
    fails(1, ofTokens(400) + " course", "course");
    fails(1, ofTokens(400) + "   abcdefghijklmnop", "abc");
    String open = ofTokens(401);
    fails(1, open.substring(0, open.length() - 1), "");
  }

  private static void toldTwice() {
    String a = "course a pitch 1 slack 1 holds 1;";
    fails(2, a + "course a pitch 9999 slack 1 holds 1;", "a pitch 9999");
    fails(2, a + "key k on a at 1;key k on x at 1;", "k on x");
    holds(a + "key a on a at 1;");
    holds(a + "key a on a at 1;course b pitch 1 slack 1 holds 1;key b on b at 2;tune a from b fifth up when broken a and pitch a = 1;");
  }

  private static void notTold() {
    String tune = TWO + "tune k from l fifth up ";
    fails(3, "key k on a at 1;", "a at");
    fails(3, "key k on k at 1;", "k at");
    fails(3, "key k on a at 1;course a pitch 1 slack 1 holds 1;", "a at");
    fails(3, TWO + "tune a from l fifth up;", "a from");
    fails(3, TWO + "tune k from b fifth up;", "b fifth");
    fails(3, TWO + "tune m from n fifth up;", "m from");
    fails(3, tune + "less pitch b;", "b;");
    fails(3, tune + "less gap a k;", "a k");
    fails(3, tune + "less gap k b;", "b;");
    fails(3, tune + "less 1 when pitch a < 1;", "a < 1");
    fails(3, tune + "when broken k;", "k;");
    fails(3, tune + "when [not broken k];", "k]");
    fails(3, tune + "when broken c;course c pitch 1 slack 1 holds 1;", "c;");
    fails(3, tune + "less pitch m;key m on a at 0;", "m;");
  }

  private static void tooMany() {
    StringBuilder courses = new StringBuilder();
    for (int i = 0; i < 8; i++) {
      courses.append(Rig.courses("c" + i, 1, 1, 1));
    }
    holds(courses.toString());
    fails(4, courses + "course c8 pitch 9999 slack 1 holds 1;", "c8");
    fails(2, courses + "course c7 pitch 1 slack 1 holds 1;", "c7");
    StringBuilder keys = new StringBuilder("course c pitch 1 slack 0 holds 1;");
    keys.append("course d pitch 1 slack 0 holds 1;key k0 on d at 0;");
    for (int i = 1; i < 20; i++) {
      keys.append(Rig.keys("k" + i, "c", i));
    }
    holds(keys.toString());
    fails(4, keys + "key k20 on x at 0;", "k20");
    fails(2, keys + "key k19 on x at 0;", "k19");
    StringBuilder tunes = new StringBuilder(TWO);
    for (int i = 0; i < 24; i++) {
      tunes.append("tune k from l fifth up;");
    }
    holds(tunes.toString());
    fails(4, tunes + "tune x from x fifth up;", "tune x");
    fails(1, tunes + "tune k from l fifth up", "");
  }

  private static void outOfRange() {
    fails(5, "course a pitch 4801 slack 1 holds 1;", "4801");
    fails(5, "course a pitch 1 slack 10 holds 1;", "10");
    fails(5, "course a pitch 1 slack 1 holds 6001;", "6001");
    fails(5, "course a pitch 999999 slack 99 holds 999999;", "999999 slack");
    fails(5, TWO + "key m on a at 601;", "601");
    holds("course a pitch 4800 slack 9 holds 6000;key k on a at 600;");
    holds("course a pitch 0 slack 0 holds 0;key k on a at 0;");
    holds(TWO + "tune k from l fifth up less 999999 when 999999 > 4801;");
  }

  private static void sameCourse() {
    fails(6, TWO + "key m on a at 9;tune k from m fifth up;", "m fifth");
    fails(6, TWO + "tune k from k fifth up less pitch x;", "k fifth");
    fails(3, TWO + "tune k from x fifth up;", "x fifth");
  }

  private static void firstOfTheErrors() {
    // Error 1 comes first, wherever it is; of the others the one that is the most to the left.
    fails(1, "course a pitch 9999 slack 1 holds 1;?", "?");
    fails(1, "key k on a at 1", "");
    fails(5, "course a pitch 9999 slack 1 holds 1;key k on b at 1;", "9999");
    fails(3, "key k on b at 999;course a pitch 9999 slack 1 holds 1;", "b at");
    fails(6, TWO + "tune k from k fifth up less pitch x;key k on a at 0;", "k fifth");
    fails(3, TWO + "tune k from l fifth up less gap x y when broken z;", "x y");
  }

  private static void whatStays() {
    ClaviTuner x = Rig.taught(TWO + "tune k from l fifth up;");
    x.setDamp(2);
    x.pass(3);
    x.run();
    long digest = x.digest();
    RIG.due("a wrong list", Rig.teach(x, "course z pitch 9 slack 9 holds 9;course z"), 1);
    RIG.due("digest() behind a wrong list", x.digest(), digest);
    RIG.due("another wrong list", Rig.teach(x, "course z pitch 9 slack 9 holds 9;key z on x at 0;"), 3);
    RIG.due("digest() behind another wrong list", x.digest(), digest);
    RIG.due("a list", Rig.teach(x, "course z pitch 9 slack 8 holds 7;"), 0);
    RIG.due("the day stays", x.count(0), 3);
    RIG.due("the damp stays", x.count(1), 2);
    RIG.due("courses", x.count(2), 1);
    RIG.due("broken", x.count(3), 1);
    RIG.due("keys", x.count(4), 0);
    RIG.due("tunes", x.count(5), 0);
    RIG.due("the first list again", Rig.teach(x, TWO + "tune k from l fifth up;"), 0);
    RIG.due("pitch as told", x.course(0, 0), 100);
    RIG.due("never carried out", x.tune(0, 6), 0);
    RIG.due("its keys", x.course(0, 4), 1);
    RIG.due("an empty tape", x.teach(), 0);
    RIG.due("no courses", x.count(2), 0);
    RIG.due("no tunes", x.count(5), 0);
  }
}
