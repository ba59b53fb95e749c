/** Compares answers with those that are due, and ends a test with exit code 1 if one was wrong. */
final class Rig {
  interface Call {
    long answer();
  }

  interface Asked {
    long of(ClaviTuner x);
  }

  interface Maker {
    ClaviTuner make();
  }

  private int wrong = 0;

  void due(String what, long got, long want) {
    if (got != want) {
      tell(what + " answered " + got + ", due is " + want);
    }
  }

  void dueDouble(String what, double got, double want) {
    if (Double.compare(got, want) != 0) {
      tell(what + " answered " + got + ", due is " + want);
    }
  }

  void dueText(String what, String got, String want) {
    if (!got.equals(want)) {
      tell(what + " is " + got + ", due is " + want);
    }
  }

  /** The call has to throw just this, and to leave all that can be asked as it is. */
  void refused(String what, ClaviTuner x, Class<?> exception, Call call) {
    long digest = x.digest();
    int errorAt = x.errorAt();
    dueText("what " + what + " throws", thrown(call), exception.getName());
    due("digest() behind the refused " + what, x.digest(), digest);
    due("errorAt() behind the refused " + what, x.errorAt(), errorAt);
  }

  /** As refused, and it makes no difference to anything that comes later, either. */
  void refusedForGood(String what, Maker maker, Class<?> exception, Asked call) {
    ClaviTuner x = maker.make();
    dueText("what " + what + " throws", thrown(() -> call.of(x)), exception.getName());
    sameFromNowOn("the refused " + what, x, maker.make());
  }

  void notRefused(String what, Maker maker, Asked call) {
    ClaviTuner x = maker.make();
    dueText("what " + what + " throws", thrown(() -> call.of(x)), "nothing");
  }

  /** The two cannot be told apart: not now, not as they go on, and not by their tapes. */
  void sameFromNowOn(String behind, ClaviTuner x, ClaviTuner twin) {
    due("errorAt() behind " + behind, x.errorAt(), twin.errorAt());
    sameButErrorAt(behind, x, twin);
  }

  /** As sameFromNowOn, but for what errorAt() tells until the next teach(). */
  void sameButErrorAt(String behind, ClaviTuner x, ClaviTuner twin) {
    dueText("all behind " + behind, all(x), all(twin));
    due("run() behind " + behind, x.run(), twin.run());
    due("pass(3) behind " + behind, x.pass(3), twin.pass(3));
    dueText("all later than " + behind, all(x), all(twin));
    due("teach() behind " + behind, x.teach(), twin.teach());
    due("errorAt() of that teach()", x.errorAt(), twin.errorAt());
    dueText("all behind teach() and " + behind, all(x), all(twin));
  }

  /** What can be asked; digest() has what count, course, key, tune, wolf and sweetest tell. */
  private static String all(ClaviTuner x) {
    StringBuilder s = new StringBuilder();
    s.append(x.digest()).append(' ').append(x.mean());
    for (int what = 0; what <= 4; what++) {
      s.append(' ').append(x.would(what));
    }
    int tunes = x.count(5);
    for (int tune = 0; tune < tunes; tune++) {
      s.append(' ').append(x.without(tune));
    }
    s.append(' ').append(x.temper());
    int keys = x.count(4);
    for (int key = 1; key < keys; key++) {
      s.append(' ').append(x.beats(key - 1, key, key % 4));
      s.append(' ').append(x.lasts(key - 1, key, key % 4, 200));
    }
    return s.toString();
  }

  private static String thrown(Call call) {
    try {
      call.answer();
      return "nothing";
    } catch (RuntimeException e) {
      return e.getClass().getName() + notBy("ClaviTuner", e);
    }
  }

  /** Nothing for an exception that this class or one inside it throws itself; else who does. */
  static String notBy(String thrower, RuntimeException e) {
    StackTraceElement[] trace = e.getStackTrace();
    String by = trace.length == 0 ? "the machine" : trace[0].getClassName();
    return by.startsWith(thrower) ? "" : " of " + by;
  }

  void tell(String fault) {
    wrong++;
    System.out.println(fault);
  }

  void end() {
    if (wrong > 0) {
      System.out.println(wrong + " answers are not as due");
      System.exit(1);
    }
  }

  static void feed(ClaviTuner x, String text) {
    int before = x.count(10);
    for (int i = 0; i < text.length(); i += 20) {
      int[] n = fiveNumbers(text, i);
      x.feed(n[0], n[1], n[2], n[3], n[4]);
    }
    x.trim(before + text.length());
  }

  static int[] fiveNumbers(String text, int from) {
    int[] n = new int[5];
    for (int i = 0; i < 20; i++) {
      int b = from + i < text.length() ? text.charAt(from + i) & 255 : '#';
      n[i / 4] = n[i / 4] << 8 | b;
    }
    return n;
  }

  static int teach(ClaviTuner x, String text) {
    feed(x, text);
    return x.teach();
  }

  static ClaviTuner taught(String text) {
    ClaviTuner x = new ClaviTuner();
    int error = teach(x, text);
    if (error != 0) {
      throw new IllegalArgumentException("error " + error + " at " + x.errorAt() + ": " + text);
    }
    return x;
  }

  /** Tells a course, or a few: name, pitch, slack, holds of each. */
  static String courses(Object... facts) {
    StringBuilder s = new StringBuilder();
    for (int i = 0; i < facts.length; i += 4) {
      s.append("course ").append(facts[i]).append(" pitch ").append(facts[i + 1]);
      s.append(" slack ").append(facts[i + 2]).append(" holds ").append(facts[i + 3]).append(";");
    }
    return s.toString();
  }

  /** Tells keys: name, course, at of each. */
  static String keys(Object... facts) {
    StringBuilder s = new StringBuilder();
    for (int i = 0; i < facts.length; i += 3) {
      s.append("key ").append(facts[i]).append(" on ").append(facts[i + 1]);
      s.append(" at ").append(facts[i + 2]).append(";");
    }
    return s.toString();
  }
}
