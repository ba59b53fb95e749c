/** Promises 1, 2, 3 and 5: a new object, feed, trim, errorAt. */
final class TapeTest {
  private static final Rig RIG = new Rig();

  public static void main(String[] args) {
    promise1New();
    promise2Feed();
    promise2FeedTooMuch();
    promise3Trim();
    promise5ErrorAt();
    RIG.end();
  }

  private static void promise1New() {
    ClaviTuner x = new ClaviTuner();
    for (int what = 0; what <= 10; what++) {
      RIG.due("count(" + what + ") of a new one", x.count(what), 0);
    }
    RIG.due("errorAt() of a new one", x.errorAt(), -1);
    RIG.due("wolf() of a new one", x.wolf(), -1);
    RIG.due("sweetest() of a new one", x.sweetest(), -1);
    RIG.due("run() of a new one", x.run(), 0);
    RIG.due("temper() of a new one", x.temper(), 0);
    RIG.dueDouble("mean() of a new one", x.mean(), 0.0);
    ClaviTuner other = new ClaviTuner();
    other.setDamp(3);
    other.pass(2);
    RIG.due("the day, another one's days gone by", x.count(0), 0);
    RIG.due("the damp, another one's set", x.count(1), 0);
  }

  private static void promise2Feed() {
    ClaviTuner x = new ClaviTuner();
    // "cour" "se a" " pit" "ch 5" " sla": the highest byte of each number comes first.
    RIG.due("feed 1", x.feed(0x636f7572, 0x73652061, 0x20706974, 0x63682035, 0x20736c61), 20);
    RIG.due("feed 2", x.feed(0x636b2031, 0x20686f6c, 0x64732037, 0x3b202020, 0x20202020), 40);
    RIG.due("bytes", x.count(10), 40);
    RIG.due("teach", x.teach(), 0);
    RIG.due("pitch", x.course(0, 0), 5);
    RIG.due("slack", x.course(0, 1), 1);
    RIG.due("holds", x.course(0, 2), 7);
    x.feed(0x20202020, 0x20202020, 0x20202020, 0x20202020, 0x202020ff);
    RIG.due("a byte 255", x.teach(), 1);
    RIG.due("a byte 255 at", x.errorAt(), 19);
    x.feed(-1, 0, 0, 0, 0);
    RIG.due("a number less than 0", x.teach(), 1);
    RIG.due("a number less than 0 at", x.errorAt(), 0);
    x.feed(0x20202020, 0x20202020, 0x20202020, 0x20202020, 0x20202020);
    RIG.due("blanks alone", x.teach(), 0);
  }

  private static void promise2FeedTooMuch() {
    ClaviTuner x = new ClaviTuner();
    for (int i = 1; i <= 100; i++) {
      RIG.due("feed " + i, x.feed(0x20202020, 0x20202020, 0x20202020, 0x20202020, 0x20202020), 20 * i);
    }
    RIG.refused("feed 101", x, IllegalStateException.class, () -> x.feed(1, 1, 1, 1, 1));
    RIG.due("trim", x.trim(1981), 1981);
    RIG.refused("feed at 1981", x, IllegalStateException.class, () -> x.feed(1, 1, 1, 1, 1));
    RIG.due("trim", x.trim(1980), 1980);
    RIG.due("feed at 1980", x.feed(0x20202020, 0x20202020, 0x20202020, 0x20202020, 0x20202031), 2000);
    RIG.refused("feed at 2000", x, IllegalStateException.class, () -> x.feed(1, 1, 1, 1, 1));
    RIG.due("teach", x.teach(), 1);
    RIG.due("the last byte", x.errorAt(), 1999);
    RIG.due("the tape is empty", x.count(10), 0);
    RIG.due("feed again", x.feed(0, 0, 0, 0, 0), 20);
  }

  private static void promise3Trim() {
    ClaviTuner x = new ClaviTuner();
    RIG.due("trim(0) of nothing", x.trim(0), 0);
    RIG.refused("trim(1) of nothing", x, IllegalArgumentException.class, () -> x.trim(1));
    RIG.refused("trim(-1) of nothing", x, IllegalArgumentException.class, () -> x.trim(-1));
    Rig.feed(x, "course a pitch 1 slack 1 holds 1; key");
    RIG.refused("trim(38)", x, IllegalArgumentException.class, () -> x.trim(38));
    RIG.refused("trim(-1)", x, IllegalArgumentException.class, () -> x.trim(-1));
    RIG.refused("trim(max)", x, IllegalArgumentException.class, () -> x.trim(Integer.MAX_VALUE));
    RIG.refused("trim(min)", x, IllegalArgumentException.class, () -> x.trim(Integer.MIN_VALUE));
    RIG.due("trim(37)", x.trim(37), 37);
    RIG.due("trim(33)", x.trim(33), 33);
    RIG.due("bytes", x.count(10), 33);
    RIG.refused("trim(34)", x, IllegalArgumentException.class, () -> x.trim(34));
    RIG.due("the first bytes are kept", x.teach(), 0);
    RIG.due("courses", x.count(2), 1);
    Rig.feed(x, "course a pitch 1 slack 1 holds 1; ?");
    x.trim(31);
    Rig.feed(x, "77;");
    RIG.due("fed behind a trim", x.teach(), 0);
    RIG.due("holds", x.course(0, 2), 77);
    Rig.feed(x, "course");
    RIG.due("trim(0)", x.trim(0), 0);
    RIG.due("bytes", x.count(10), 0);
  }

  private static void promise5ErrorAt() {
    ClaviTuner x = new ClaviTuner();
    RIG.due("errorAt()", x.errorAt(), -1);
    Rig.feed(x, "  ?");
    RIG.due("errorAt() ahead of teach", x.errorAt(), -1);
    RIG.due("teach", x.teach(), 1);
    RIG.due("errorAt()", x.errorAt(), 2);
    RIG.due("errorAt() again", x.errorAt(), 2);
    Rig.feed(x, "key k on a at 0;");
    RIG.due("errorAt() ahead of the next teach", x.errorAt(), 2);
    RIG.due("teach", x.teach(), 3);
    RIG.due("errorAt()", x.errorAt(), 9);
    RIG.due("teach of nothing", x.teach(), 0);
    RIG.due("errorAt()", x.errorAt(), -1);
  }
}
