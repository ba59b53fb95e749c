/** Promises 10 to 15: carry, run, turn, string, setDamp, pass. */
final class HandTest {
  private static final Rig RIG = new Rig();

  public static void main(String[] args) {
    promise10Carry();
    promise10Intervals();
    promise10Edges();
    promise11Run();
    promise12Turn();
    promise13String();
    promise14SetDamp();
    promise15Pass();
    promise15Edges();
    RIG.end();
  }

  private static void promise10Carry() {
    ClaviTuner x = Rig.taught(FactsTest.LIST);
    x.string(1, 100);
    RIG.due("carry(0)", x.carry(0) ? 1 : 0, 1);
    RIG.due("g", x.key(2, 2), 1900);
    RIG.due("carried out", x.tune(0, 6), 1);
    RIG.due("carry(0)", x.carry(0) ? 1 : 0, 1);
    RIG.due("carried out", x.tune(0, 6), 2);
    RIG.due("carry(1), on the day 0", x.carry(1) ? 1 : 0, 0);
    RIG.due("never carried out", x.tune(1, 6), 0);
    RIG.due("carry(2)", x.carry(2) ? 1 : 0, 1);
    RIG.due("d", x.key(1, 2), 1402);
    RIG.due("c on its course", x.key(0, 2), 1202);
    RIG.due("carry(3), of a silent key", x.carry(3) ? 1 : 0, 0);
    RIG.due("carry(4)", x.carry(4) ? 1 : 0, 1);
    RIG.due("c", x.key(0, 2), 1304);
    x.turn(0, 600);
    x.turn(0, 600);
    RIG.due("carry(0), from a silent key", x.carry(0) ? 1 : 0, 0);
    RIG.due("g", x.key(2, 2), 1900);
    for (int tune : new int[] {-1, 5, Integer.MAX_VALUE, Integer.MIN_VALUE}) {
      RIG.refused("carry(" + tune + ")", x, IndexOutOfBoundsException.class, () -> x.carry(tune) ? 1 : 0);
    }
    ClaviTuner empty = new ClaviTuner();
    RIG.refused("carry(0) of none", empty, IndexOutOfBoundsException.class, () -> empty.carry(0) ? 1 : 0);
  }

  private static void promise10Intervals() {
    String[] intervals = {"fifth", "fourth", "third", "octave"};
    int[] cents = {702, 498, 386, 1200};
    for (int i = 0; i < 4; i++) {
      for (int less = -5; less <= 5; less += 5) {
        for (int up = 0; up <= 1; up++) {
          String tune = "tune k from l " + intervals[i] + (up == 1 ? " up" : " down") + " less " + less + ";";
          ClaviTuner x =
              Rig.taught(
                  Rig.courses("a", 3000, 0, 6000, "b", 2000, 0, 6000)
                      + Rig.keys("k", "a", 30, "l", "b", 70)
                      + tune);
          RIG.due("carry(0): " + tune, x.carry(0) ? 1 : 0, 1);
          int due = 2070 + (up == 1 ? cents[i] - less : less - cents[i]);
          RIG.due("the key: " + tune, x.key(0, 2), due);
          RIG.due("its course: " + tune, x.course(0, 0), due - 30);
          RIG.due("the other course: " + tune, x.course(1, 0), 2000);
        }
      }
    }
  }

  private static void promise10Edges() {
    ClaviTuner low =
        Rig.taught(
            Rig.courses("a", 300, 0, 6000, "b", 500, 0, 6000)
                + Rig.keys("k", "a", 30, "l", "b", 40)
                + "tune k from l fifth down;tune k from l fourth down;tune k from l fourth down less 12;");
    RIG.due("carry(0), below 0", low.carry(0) ? 1 : 0, 1);
    RIG.due("its course", low.course(0, 0), 0);
    RIG.due("its key", low.key(0, 2), 30);
    RIG.due("carried out all the same", low.tune(0, 6), 1);
    RIG.due("carry(1), to 42", low.carry(1) ? 1 : 0, 1);
    RIG.due("its course", low.course(0, 0), 12);
    RIG.due("carry(2), to 54", low.carry(2) ? 1 : 0, 1);
    RIG.due("its course", low.course(0, 0), 24);
    ClaviTuner high =
        Rig.taught(
            Rig.courses("a", 300, 0, 1202, "b", 500, 0, 6000)
                + Rig.keys("k", "a", 0, "l", "b", 0)
                + "tune k from l fifth up;tune k from l fifth up less -1;tune l from k octave up;");
    RIG.due("carry(0), to what it holds", high.carry(0) ? 1 : 0, 1);
    RIG.due("not broken", high.course(0, 3), 0);
    RIG.due("carry(1), to more", high.carry(1) ? 1 : 0, 1);
    RIG.due("broken by that", high.course(0, 3), 1);
    RIG.due("the pitch at which it broke", high.course(0, 0), 1203);
    RIG.due("its key is silent", high.key(0, 2), -1);
    RIG.due("carried out", high.tune(1, 6), 1);
    RIG.due("carry(0) then", high.carry(0) ? 1 : 0, 0);
    RIG.due("carry(2) then", high.carry(2) ? 1 : 0, 0);
    RIG.due("carried out once", high.tune(0, 6), 1);
  }

  private static void promise11Run() {
    ClaviTuner x = Rig.taught(FactsTest.LIST);
    // g 1900, d 1402 with c 1202, and c 1590 - 286 = 1304 with d 1504.
    RIG.due("run() on the day 0", x.run(), 3);
    RIG.due("c", x.key(0, 2), 1304);
    RIG.due("d", x.key(1, 2), 1504);
    RIG.due("g", x.key(2, 2), 1900);
    RIG.due("e", x.key(3, 2), 1590);
    x.pass(1);
    // c 1303; g 2003, e 1693, then d 1505 with c 1305, and c 1693 - 286 = 1407.
    RIG.due("run() on the day 1", x.run(), 4);
    RIG.due("c", x.key(0, 2), 1407);
    RIG.due("g", x.key(2, 2), 2003);
    RIG.due("e", x.key(3, 2), 1693);
    int[] times = {2, 1, 2, 0, 2};
    for (int tune = 0; tune < 5; tune++) {
      RIG.due("how often tune " + tune, x.tune(tune, 6), times[tune]);
    }
    // g would be 2107, more than it holds: it breaks, and what needs it is not carried out.
    RIG.due("run() that breaks", x.run(), 2);
    RIG.due("g", x.course(1, 0), 2107);
    RIG.due("g is broken", x.course(1, 3), 1);
    RIG.due("e breaks, too", x.course(2, 0), 1797);
    RIG.due("run() of what is left", x.run(), 0);
    RIG.due("run() of none", Rig.taught(FactsTest.STRINGS).run(), 0);
    ClaviTuner turns =
        Rig.taught(
            Rig.courses("a", 300, 0, 6000, "b", 500, 0, 6000)
                + Rig.keys("k", "a", 0, "l", "b", 0)
                + "tune k from l fifth up when pitch k = 300;tune k from l third up when pitch k = 300;"
                + "tune k from l third up less gap l k - 690;tune l from k third up when broken a;");
    RIG.due("tests and sums come to their turn", turns.run(), 2);
    RIG.due("k", turns.key(0, 2), 500 + 386 - 12);
  }

  private static void promise12Turn() {
    ClaviTuner x = Rig.taught(FactsTest.LIST);
    RIG.due("turn(0, 5)", x.turn(0, 5), 1205);
    RIG.due("turn(0, -6)", x.turn(0, -6), 1199);
    RIG.due("turn(0, 0)", x.turn(0, 0), 1199);
    RIG.due("its keys", x.key(1, 2), 1399);
    RIG.due("another course", x.course(1, 0), 1900);
    RIG.due("turn(0, -600)", x.turn(0, -600), 599);
    RIG.due("turn(0, -600) to less than 0", x.turn(0, -600), 0);
    RIG.due("pitch", x.course(0, 0), 0);
    RIG.due("turn(0, 600)", x.turn(0, 600), 600);
    RIG.due("turn(1, 200) to what it holds", x.turn(1, 200), 2100);
    RIG.due("not broken", x.course(1, 3), 0);
    RIG.due("turn(1, 1) to more", x.turn(1, 1), 2101);
    RIG.due("broken", x.course(1, 3), 1);
    RIG.refused("turn(1, 0) of a broken one", x, IllegalStateException.class, () -> x.turn(1, 0));
    RIG.refused("turn(3, -600) of a broken one", x, IllegalStateException.class, () -> x.turn(3, -600));
    RIG.refused("turn(1, 601) of a broken one", x, IllegalArgumentException.class, () -> x.turn(1, 601));
    RIG.refused("turn(0, 601)", x, IllegalArgumentException.class, () -> x.turn(0, 601));
    RIG.refused("turn(0, -601)", x, IllegalArgumentException.class, () -> x.turn(0, -601));
    RIG.refused("turn(0, min)", x, IllegalArgumentException.class, () -> x.turn(0, Integer.MIN_VALUE));
    RIG.refused("turn(0, max)", x, IllegalArgumentException.class, () -> x.turn(0, Integer.MAX_VALUE));
    RIG.refused("turn(4, 0)", x, IndexOutOfBoundsException.class, () -> x.turn(4, 0));
    RIG.refused("turn(-1, 0)", x, IndexOutOfBoundsException.class, () -> x.turn(-1, 0));
    RIG.refused("turn(4, 601)", x, IndexOutOfBoundsException.class, () -> x.turn(4, 601));
  }

  private static void promise13String() {
    ClaviTuner x = Rig.taught(FactsTest.LIST);
    RIG.due("string(0, 2000)", x.string(0, 2000), 1200);
    RIG.due("pitch", x.course(0, 0), 2000);
    RIG.due("its keys", x.key(1, 2), 2200);
    RIG.due("string(0, 0)", x.string(0, 0), 2000);
    RIG.due("pitch", x.course(0, 0), 0);
    RIG.due("string(3, 2999) of a broken one", x.string(3, 2999), 3000);
    RIG.due("not broken then", x.course(3, 3), 0);
    RIG.due("its key sounds", x.key(4, 2), 3009);
    RIG.due("broken ones", x.count(3), 0);
    RIG.due("string(3, 5)", x.string(3, 5), 2999);
    RIG.refused("string(0, 2001)", x, IllegalArgumentException.class, () -> x.string(0, 2001));
    RIG.refused("string(0, -1)", x, IllegalArgumentException.class, () -> x.string(0, -1));
    RIG.refused("string(0, max)", x, IllegalArgumentException.class, () -> x.string(0, Integer.MAX_VALUE));
    RIG.refused("string(0, min)", x, IllegalArgumentException.class, () -> x.string(0, Integer.MIN_VALUE));
    RIG.refused("string(4, 1)", x, IndexOutOfBoundsException.class, () -> x.string(4, 1));
    RIG.refused("string(-1, 1)", x, IndexOutOfBoundsException.class, () -> x.string(-1, 1));
    RIG.refused("string(4, -1)", x, IndexOutOfBoundsException.class, () -> x.string(4, -1));
    x.turn(3, 600);
    RIG.due("turned then", x.course(3, 0), 605);
  }

  private static void promise14SetDamp() {
    ClaviTuner x = Rig.taught(FactsTest.LIST);
    RIG.due("setDamp(5)", x.setDamp(5), 0);
    RIG.due("damp", x.count(1), 5);
    RIG.refused("setDamp(6)", x, IllegalArgumentException.class, () -> x.setDamp(6));
    RIG.refused("setDamp(-6)", x, IllegalArgumentException.class, () -> x.setDamp(-6));
    RIG.refused("setDamp(min)", x, IllegalArgumentException.class, () -> x.setDamp(Integer.MIN_VALUE));
    RIG.due("setDamp(-5)", x.setDamp(-5), 5);
    RIG.due("setDamp(0)", x.setDamp(0), -5);
    RIG.due("setDamp(0)", x.setDamp(0), 0);
    RIG.due("pitch", x.course(0, 0), 1200);
  }

  private static void promise15Pass() {
    ClaviTuner x = Rig.taught(FactsTest.LIST);
    RIG.due("pass(1)", x.pass(1), 0);
    RIG.due("day", x.count(0), 1);
    int[] pitches = {1199, 1900, 1588, 3000};
    for (int course = 0; course < 4; course++) {
      RIG.due("pitch of " + course, x.course(course, 0), pitches[course]);
    }
    x.setDamp(4);
    RIG.due("pass(50)", x.pass(50), 0);
    RIG.due("day", x.count(0), 51);
    RIG.due("c", x.course(0, 0), 1199 + 150);
    RIG.due("g", x.course(1, 0), 2100);
    RIG.due("e", x.course(2, 0), 1588 + 100);
    RIG.due("x", x.course(3, 0), 3000);
    // g holds 2100 and breaks on the next day; e, at 1688, holds 1700 and breaks on the seventh.
    RIG.due("pass(10)", x.pass(10), 2);
    RIG.due("g", x.course(1, 0), 2104);
    RIG.due("e", x.course(2, 0), 1702);
    RIG.due("c", x.course(0, 0), 1379);
    RIG.due("day", x.count(0), 61);
    x.setDamp(-5);
    RIG.due("pass(120)", x.pass(120), 0);
    RIG.due("c", x.course(0, 0), 1379 - 720);
    RIG.due("day", x.count(0), 181);
    RIG.due("pass(120)", x.pass(120), 0);
    RIG.due("c is at least 0", x.course(0, 0), 0);
    for (int days : new int[] {0, 121, -1, Integer.MAX_VALUE, Integer.MIN_VALUE}) {
      RIG.refused("pass(" + days + ")", x, IllegalArgumentException.class, () -> x.pass(days));
    }
  }

  private static void promise15Edges() {
    ClaviTuner x = Rig.taught(Rig.courses("a", 1, 3, 6000, "b", 100, 5, 100, "c", 97, 2, 100));
    x.setDamp(5);
    RIG.due("damp and slack at once", x.pass(1), 0);
    RIG.due("a", x.course(0, 0), 3);
    RIG.due("b", x.course(1, 0), 100);
    RIG.due("c", x.course(2, 0), 100);
    RIG.due("c breaks", x.pass(1), 1);
    RIG.due("c", x.course(2, 0), 103);
    x.setDamp(0);
    RIG.due("pass(2)", x.pass(2), 0);
    RIG.due("a is at least 0", x.course(0, 0), 0);
    x.setDamp(5);
    RIG.due("pass(1)", x.pass(1), 0);
    RIG.due("a, from 0", x.course(0, 0), 2);
    ClaviTuner none = new ClaviTuner();
    RIG.due("pass(7) without courses", none.pass(7), 0);
    RIG.due("day", none.count(0), 7);
    RIG.refused("pass(0)", none, IllegalArgumentException.class, () -> none.pass(0));
  }
}
