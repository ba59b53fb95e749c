import java.nio.charset.StandardCharsets;

/** Compares answers with those that are due, and ends a test with exit code 1 if one was wrong. */
final class Rig {
  interface Call {
    long answer();
  }

  private int wrong = 0;

  void due(String what, long got, long want) {
    if (got != want) {
      tell(what + " answered " + got + ", due is " + want);
    }
  }

  void dueDouble(String what, double got, double want) {
    if (Double.compare(got, want) != 0) {
      tell(what + " answered " + got + ", due is " + want);
    }
  }

  /** The call has to throw just this, and to leave all that can be asked as it is. */
  void refused(String what, ClaviTuner x, Class<?> exception, Call call) {
    long digest = x.digest();
    int errorAt = x.errorAt();
    String thrown = "nothing";
    try {
      call.answer();
    } catch (RuntimeException e) {
      thrown = e.getClass().getName() + thrownBy(e);
    }
    if (!thrown.equals(exception.getName())) {
      tell(what + " threw " + thrown + ", due is " + exception.getName());
    }
    due("digest() behind the refused " + what, x.digest(), digest);
    due("errorAt() behind the refused " + what, x.errorAt(), errorAt);
  }

  /** Nothing for an exception that the program throws itself, as it has to. */
  private static String thrownBy(RuntimeException e) {
    StackTraceElement[] trace = e.getStackTrace();
    String by = trace.length == 0 ? "the machine" : trace[0].getClassName();
    return by.startsWith("ClaviTuner") ? "" : " of " + by;
  }

  void tell(String fault) {
    wrong++;
    System.out.println(fault);
  }

  void end() {
    if (wrong > 0) {
      System.out.println(wrong + " answers are not as due");
      System.exit(1);
    }
  }

  static void feed(ClaviTuner x, String text) {
    byte[] bytes = text.getBytes(StandardCharsets.ISO_8859_1);
    int before = x.count(10);
    for (int i = 0; i < bytes.length; i += 20) {
      int[] n = new int[5];
      for (int j = 0; j < 20; j++) {
        int b = i + j < bytes.length ? bytes[i + j] & 255 : '#';
        n[j / 4] = n[j / 4] << 8 | b;
      }
      x.feed(n[0], n[1], n[2], n[3], n[4]);
    }
    x.trim(before + bytes.length);
  }

  static int teach(ClaviTuner x, String text) {
    feed(x, text);
    return x.teach();
  }

  static ClaviTuner taught(String text) {
    ClaviTuner x = new ClaviTuner();
    int error = teach(x, text);
    if (error != 0) {
      throw new IllegalArgumentException("error " + error + " at " + x.errorAt() + ": " + text);
    }
    return x;
  }

  /** Tells a course, or a few: name, pitch, slack, holds of each. */
  static String courses(Object... facts) {
    StringBuilder s = new StringBuilder();
    for (int i = 0; i < facts.length; i += 4) {
      s.append("course ").append(facts[i]).append(" pitch ").append(facts[i + 1]);
      s.append(" slack ").append(facts[i + 2]).append(" holds ").append(facts[i + 3]).append(";");
    }
    return s.toString();
  }

  /** Tells keys: name, course, at of each. */
  static String keys(Object... facts) {
    StringBuilder s = new StringBuilder();
    for (int i = 0; i < facts.length; i += 3) {
      s.append("key ").append(facts[i]).append(" on ").append(facts[i + 1]);
      s.append(" at ").append(facts[i + 2]).append(";");
    }
    return s.toString();
  }
}
