/** Promises 38 to 43: images, what is told, counts, findings. */
public final class ImagesTest {
  private static final Due due = new Due("ImagesTest");

  public static void main(String[] args) {
    images();
    whatStays();
    madeAnew();
    tell();
    check();
    count();
    found();
    due.end();
  }

  /** One number for much of what can be asked. */
  private static long asked(DesertWire x) {
    long sum = 0;
    for (int what = 0; what <= 12; what++) {
      sum = 31 * sum + (what == 7 ? 0 : x.count(what));
    }
    for (int mile = 0; mile < 40; mile++) {
      for (int what = 0; what < 6; what++) {
        sum = 31 * sum + x.mileIs(mile, what);
      }
    }
    for (int work = 0; work < 3; work++) {
      for (int what = 0; what < 8; what++) {
        sum = 31 * sum + x.workIs(work, what);
      }
    }
    for (int what = 0; what < 9; what++) {
      sum = 31 * sum + x.partyIs(0, what);
    }
    for (int use = 0; use < 3; use++) {
      sum = 31 * sum + x.force(use, 2000);
      sum = 31 * sum + x.price(use, 3, 4, 5);
    }
    return sum;
  }

  private static DesertWire busy() {
    DesertWire x = new DesertWire();
    x.land(3, 1, 9);
    x.work(1, 3, 4);
    x.work(5, 3, 4);
    x.work(4, 3, 4);
    x.lay(1, 90);
    x.party(3, 1, 502, 7);
    x.give(0, 0, 50);
    x.give(0, 1, 50);
    Due.type(x, "n+c+m");
    x.rate(0, 0);
    Due.type(x, "l*3");
    x.tell(4);
    x.reach(33);
    return x;
  }

  private static DesertWire withImage() {
    DesertWire x = busy();
    x.days(1);
    due.is("image()", x.image(), 1);
    return x;
  }

  /** Changes all that an IMAGE keeps. */
  private static DesertWire changed() {
    DesertWire x = withImage();
    x.days(70);
    x.land(3, 2, 1);
    x.land(8, 2, 1);
    x.rain(0, 7);
    x.fell(2);
    x.work(3, 9, 9);
    x.lay(1, 50);
    x.party(1, 1, 100, 1);
    x.reach(9);
    x.rate(1, 0);
    Due.type(x, "9");
    x.tell(5);
    return x;
  }

  private static void images() {
    due.is("restore() of none", busy().restore(), Due.NONE);
    long was = asked(withImage());
    due.is("all is changed", asked(changed()) == was ? 1 : 0, 0);
    DesertWire x = changed();
    due.is("restore()", x.restore(), 1);
    due.is("all is as it was", asked(x), was);
    DesertWire y = changed();
    y.restore();
    due.is("RAIN", y.rain(0, 7), 2);
    due.is("REACH", y.reach(9), 33);
    due.is("numbers that wait", y.tell(1), 2);
    due.is("restore() again", y.restore(), 1);
    due.is("all is as it was, again", asked(y), was);
    due.is("THE TAPE as it was", y.rate(1, 0), 1);
    due.is("l*3", y.price(1, 7, 0, 0), 21);
    y.days(4);
    due.is("image() again", y.image(), 2);
    y.days(4);
    due.is("restore() of the later one", y.restore(), 5);
    due.is("image() goes on", y.image(), 3);
  }

  private static void whatStays() {
    DesertWire x = busy();
    x.image();
    Due.fill(x, 0, 8, 1, 2);
    x.voice(0, 0, 1);
    x.fell(99);
    x.restore();
    due.is("SHEETS stay", x.soils(0, 0), 2);
    due.is("SHEETS stay as they are", x.mileIs(1, 0), 2);
    due.is("THE TRACE stays", x.count(7), 1);
    due.is("THE TRACE stays as it is", x.trace(0), 10);
    due.is("found(1) stays", x.found(1), 1);
    due.is("SOIL goes with the IMAGE", x.restore(), 0);
    due.is("SOIL 1", x.mileIs(1, 0), 0);
    x.fell(0);
    x.restore();
    due.is("WIRED again", x.mileIs(3, 2), 1);
    x.image();
    x.fell(0);
    due.is("the IMAGE is no part of what is", x.restore(), 0);
    due.is("WIRED once more", x.mileIs(3, 2), 1);
  }

  /** What was made behind the IMAGE leaves nothing where others are made then. */
  private static void madeAnew() {
    DesertWire x = new DesertWire();
    x.work(5, 0, 1);
    x.lay(0, 10);
    due.is("FOOD of DEPOT 0", x.count(12), 10);
    x.tell(-1);
    x.tell(7);
    x.image();
    x.work(5, 1, 1);
    x.lay(1, 20);
    x.fell(1);
    x.party(1, -1, 305, 9);
    x.give(0, 0, 9);
    x.check();
    x.tell(8);
    x.restore();
    due.is("a WORK anew", x.work(5, 2, 3), 1);
    due.is("it stands", x.workIs(1, 4), 0);
    due.is("it holds nothing", x.workIs(1, 6), 0);
    due.is("its MILE", x.workIs(1, 1), 2);
    due.is("a PARTY anew", x.party(3, 1, 100, 1), 0);
    due.is("its FOOD", x.partyIs(0, 5), 0);
    due.is("its BEASTS", x.partyIs(0, 3), 0);
    due.is("what waits as it was", x.check(), 2);
  }

  private static void tell() {
    DesertWire x = new DesertWire();
    for (int i = 1; i <= 20; i++) {
      due.is("tell " + i, x.tell(-1), i);
    }
    due.is("tell 21", x.tell(-1), Due.FULL);
    due.is("count(8)", x.count(8), 20);
    due.is("check()", x.check(), 0);
    due.is("none wait", x.count(8), 0);
    due.is("tell then", x.tell(7), 1);
  }

  private static void check() {
    DesertWire x = new DesertWire();
    due.is("check() of none", x.check(), 0);
    x.work(1, 0, 1);
    x.work(2, 2, 1);
    x.tell(3);
    x.tell(-1);
    x.tell(1);
    due.is("all is so", x.check(), 0);
    x.tell(3);
    x.tell(0);
    x.tell(0);
    due.is("the second isn't so", x.check(), 2);
    due.is("none wait", x.count(8), 0);
    due.is("none wait then", x.check(), 0);
    x.tell(2);
    due.is("the first isn't so", x.check(), 1);
    for (int i = 0; i < 19; i++) {
      x.tell(i == 0 ? 3 : i == 2 ? 1 : -1);
    }
    x.tell(5);
    due.is("the last isn't so", x.check(), 20);
  }

  private static void count() {
    DesertWire x = new DesertWire();
    due.is("count(-1)", x.count(-1), Due.BEYOND);
    due.is("count(13)", x.count(13), Due.BEYOND);
    x.work(3, 1, 1);
    x.work(3, 1, 1);
    x.work(2, 1, 1);
    x.work(1, 2, 1);
    x.work(5, 3, 1);
    x.work(5, 3, 1);
    x.work(4, 4, 1);
    x.lay(4, 100);
    x.lay(5, 11);
    x.party(5, 1, 300, 0);
    x.party(6, 1, 400, 0);
    x.give(0, 0, 500);
    x.give(0, 1, 500);
    Due.type(x, "1");
    x.rate(0, 0);
    Due.type(x, "123");
    x.voice(0, 0, 0);
    x.tell(1);
    int[] want = {7, 0, 2, 0, 1, 0, 3, 2, 1, 2, 2, 7, 111};
    for (int what = 0; what <= 12; what++) {
      due.is("count(" + what + ")", x.count(what), want[what]);
    }
    x.fell(0);
    x.fell(3);
    x.fell(4);
    x.days(3);
    int[] then = {7, 3, 2, 1, 1, 3, 3, 2, 1, 1, 1, 3, 11};
    for (int what = 0; what <= 12; what++) {
      due.is("count(" + what + ") then", x.count(what), then[what]);
    }
  }

  private static void found() {
    DesertWire x = new DesertWire();
    due.is("found(0)", x.found(0), Due.BEYOND);
    due.is("found(6)", x.found(6), Due.BEYOND);
    due.is("found(-1)", x.found(-1), Due.BEYOND);
    due.is("found(1)", x.found(1), 3);
    due.is("found(1) again", x.found(1), 3);
    x.trace(0);
    x.restore();
    due.is("found(2)", x.found(2), 2);
    x.work(0, 0, 1);
    x.fell(0);
    x.fell(0);
    due.is("found(3)", x.found(3), 1);
    for (int i = 0; i < 24; i++) {
      x.tell(0);
    }
    due.is("found(4)", x.found(4), 4);
    x.as(0, 1);
    x.lay(0, 1);
    due.is("found(5)", x.found(5), 2);
    due.is("found(1) stays", x.found(1), 3);
  }
}
