/** Lists that several tests tell, and texts in which the place of an error is marked. */
final class Lists {
  /** Two courses, a key on each. */
  static final String TWO =
      Rig.courses("a", 1000, 1, 6000, "b", 2000, 2, 6000) + Rig.keys("k", "a", 0, "l", "b", 0);

  static final String[] KEYWORDS = {
    "course", "pitch", "slack", "holds", "key", "on", "at", "tune", "from", "fifth", "fourth",
    "third", "octave", "up", "down", "less", "when", "day", "gap", "broken", "not", "and", "or",
    "min", "max"
  };

  /** In a marked text it stands ahead of the token that is asked for; it is not of the text. */
  static final char MARK = '@';

  private Lists() {}

  static String eightCourses() {
    StringBuilder s = new StringBuilder();
    for (int i = 0; i < 8; i++) {
      s.append(Rig.courses("c" + i, 1000 + 100 * i, i % 3, 5000));
    }
    return s.toString();
  }

  static String twentyKeys() {
    StringBuilder s = new StringBuilder();
    for (int i = 0; i < 20; i++) {
      s.append(Rig.keys("k" + i, "c" + i % 8, 10 * (i / 8)));
    }
    return s.toString();
  }

  /** Fifths and fourths in turn, so that no course breaks; ten are told with less. */
  static String twentyFourTunes() {
    StringBuilder s = new StringBuilder();
    for (int i = 0; i < 24; i++) {
      s.append("tune k").append((i + 1) % 8).append(" from k").append(i % 8);
      s.append(i % 2 == 0 ? " fifth up" : " fourth down").append(i < 10 ? " less 1;" : ";");
    }
    return s.toString();
  }

  /** As many courses, keys, tunes and tokens as there can be. */
  static String full() {
    return eightCourses() + twentyKeys() + twentyFourTunes();
  }

  /** With blanks ahead of its last byte, so that it has so many bytes. */
  static String padded(String list, int bytes) {
    int last = list.length() - 1;
    return list.substring(0, last) + " ".repeat(bytes - list.length()) + list.substring(last);
  }

  static String unmarked(String marked) {
    return marked.replace("" + MARK, "");
  }

  static int placeOf(String marked) {
    return marked.indexOf(MARK);
  }

  /** The text behind the mark is no list, or tells something wrong, just there. */
  static void fails(Rig rig, int error, String marked) {
    ClaviTuner x = new ClaviTuner();
    String text = unmarked(marked);
    rig.due("teach of " + text, Rig.teach(x, text), error);
    rig.due("errorAt() of " + text, x.errorAt(), placeOf(marked));
    rig.due("bytes behind " + text, x.count(10), 0);
    rig.due("courses behind " + text, x.count(2), 0);
  }

  static void holds(Rig rig, String text) {
    ClaviTuner x = new ClaviTuner();
    rig.due("teach of " + text, Rig.teach(x, text), 0);
    rig.due("errorAt() of " + text, x.errorAt(), -1);
    rig.due("bytes behind " + text, x.count(10), 0);
  }
}
