/** Promises 1 to 10: a new object, the land, works. */
public final class LandTest {
  private static final Due due = new Due("LandTest");

  public static void main(String[] args) {
    newObject();
    rain();
    land();
    work();
    as();
    workIs();
    eaten();
    fell();
    lay();
    mileIs();
    soils();
    due.end();
  }

  private static void newObject() {
    DesertWire x = new DesertWire();
    for (int what = 0; what <= 12; what++) {
      due.is("new count(" + what + ")", x.count(what), 0);
    }
    for (int k = 1; k <= 5; k++) {
      due.is("new found(" + k + ")", x.found(k), 0);
    }
    for (int mile = 0; mile < 40; mile++) {
      due.is("new SOIL", x.mileIs(mile, 0), 0);
      due.is("new SPRING", x.mileIs(mile, 1), 0);
      due.is("new WIRED", x.mileIs(mile, 2), 0);
    }
    for (int month = 0; month < 12; month++) {
      due.is("new RAIN", x.rain(month, 2), 2);
    }
    due.is("new workIs", x.workIs(0, 0), Due.BEYOND);
    due.is("new partyIs", x.partyIs(0, 0), Due.BEYOND);
    due.is("new restore", x.restore(), Due.NONE);
    due.is("new trace", x.trace(0), Due.NONE);
    for (int sheet = 0; sheet < 4; sheet++) {
      due.is("new put", x.put(sheet, 0, 0), Due.NONE);
    }
    due.is("new reach", x.reach(40), 40);
    due.is("new check", x.check(), 0);
  }

  private static void rain() {
    DesertWire x = new DesertWire();
    due.is("rain(11, 9)", x.rain(11, 9), 2);
    due.is("rain(11, 0)", x.rain(11, 0), 9);
    due.is("rain(11, 1)", x.rain(11, 1), 0);
    due.is("rain(0, 5)", x.rain(0, 5), 2);
    due.is("rain(12, 1)", x.rain(12, 1), Due.BEYOND);
    due.is("rain(-1, 1)", x.rain(-1, 1), Due.BEYOND);
    due.is("rain(0, 10)", x.rain(0, 10), Due.BEYOND);
    due.is("rain(0, -1)", x.rain(0, -1), Due.BEYOND);
    due.is("rain(0, 5) again", x.rain(0, 5), 5);
    due.is("found(1)", x.found(1), 4);
    x.land(3, 2, 0);
    due.is("CLAY in MONTH 0", x.mileIs(3, 4), 70);
    x.days(29);
    due.is("CLAY on DAY 29", x.mileIs(3, 4), 70);
    x.days(1);
    due.is("CLAY on DAY 30", x.mileIs(3, 4), 40);
    x.days(200);
    x.days(100);
    due.is("CLAY on DAY 330", x.mileIs(3, 4), 30);
    x.days(29);
    due.is("CLAY on DAY 359", x.mileIs(3, 4), 30);
    x.days(1);
    due.is("CLAY on DAY 360", x.mileIs(3, 4), 70);
  }

  private static void land() {
    DesertWire x = new DesertWire();
    due.is("land(0, 2, 99)", x.land(0, 2, 99), 0);
    due.is("land(0, 1, 0)", x.land(0, 1, 0), 299);
    due.is("land(0, 0, 7)", x.land(0, 0, 7), 100);
    due.is("land(39, 2, 1)", x.land(39, 2, 1), 0);
    due.is("land(40, 0, 0)", x.land(40, 0, 0), Due.BEYOND);
    due.is("land(-1, 0, 0)", x.land(-1, 0, 0), Due.BEYOND);
    due.is("land(0, 3, 0)", x.land(0, 3, 0), Due.BEYOND);
    due.is("land(0, -1, 0)", x.land(0, -1, 0), Due.BEYOND);
    due.is("land(0, 0, 100)", x.land(0, 0, 100), Due.BEYOND);
    due.is("land(0, 0, -1)", x.land(0, 0, -1), Due.BEYOND);
    due.is("land(0, 0, 0)", x.land(0, 0, 0), 7);
    due.is("land(39, 0, 0)", x.land(39, 0, 0), 201);
  }

  private static void work() {
    DesertWire x = new DesertWire();
    due.is("work(6, 0, 1)", x.work(6, 0, 1), Due.BEYOND);
    due.is("work(-1, 0, 1)", x.work(-1, 0, 1), Due.BEYOND);
    due.is("work(0, 40, 1)", x.work(0, 40, 1), Due.BEYOND);
    due.is("work(0, -1, 1)", x.work(0, -1, 1), Due.BEYOND);
    due.is("work(0, 0, 0)", x.work(0, 0, 0), Due.BEYOND);
    due.is("work(0, 0, 51)", x.work(0, 0, 51), Due.BEYOND);
    due.is("count(0)", x.count(0), 0);
    x.days(4);
    for (int i = 0; i < 60; i++) {
      due.is("work " + i, x.work(i % 6, i % 40, i % 50 + 1), i);
    }
    due.is("a 61st", x.work(0, 0, 1), Due.FULL);
    due.is("a 61st that is beyond", x.work(0, 0, 51), Due.BEYOND);
    x.fell(3);
    due.is("a 61st with one DOWN", x.work(0, 0, 1), Due.FULL);
    due.is("count(0) then", x.count(0), 60);
    due.is("workIs(59, 0)", x.workIs(59, 0), 5);
    due.is("workIs(59, 1)", x.workIs(59, 1), 19);
    due.is("workIs(59, 2)", x.workIs(59, 2), 10);
    due.is("workIs(59, 3)", x.workIs(59, 3), 4);
  }

  private static void as() {
    DesertWire x = new DesertWire();
    for (int kind = 0; kind < 6; kind++) {
      x.work(kind, 0, 10 + kind);
    }
    boolean[][] is = {
      {true, false, false, false, false, false},
      {true, true, false, false, false, false},
      {true, true, true, false, false, false},
      {true, true, true, true, false, false},
      {true, false, false, false, true, false},
      {true, false, false, false, true, true},
    };
    for (int work = 0; work < 6; work++) {
      for (int kind = 0; kind < 6; kind++) {
        int want = is[work][kind] ? 10 + work : Due.KIND;
        due.is("as(" + work + ", " + kind + ")", x.as(work, kind), want);
      }
    }
    due.is("as(6, 0)", x.as(6, 0), Due.BEYOND);
    due.is("as(-1, 0)", x.as(-1, 0), Due.BEYOND);
    due.is("as(0, 6)", x.as(0, 6), Due.BEYOND);
    due.is("as(0, -1)", x.as(0, -1), Due.BEYOND);
    x.fell(3);
    due.is("as of one DOWN", x.as(3, 1), 13);
  }

  private static void workIs() {
    DesertWire x = new DesertWire();
    x.land(7, 1, 0);
    x.days(5);
    x.work(1, 7, 9);
    x.work(5, 8, 3);
    x.work(2, 8, 50);
    x.work(0, 8, 50);
    int[] pole = {1, 7, 9, 5, 0, 125, -1, 9};
    int[] depot = {5, 8, 3, 5, 0, -1, 0, 0};
    int[] iron = {2, 8, 50, 5, 0, -1, -1, 50};
    int[] plain = {0, 8, 50, 5, 0, -1, -1, 0};
    for (int what = 0; what < 8; what++) {
      due.is("POLE " + what, x.workIs(0, what), pole[what]);
      due.is("DEPOT " + what, x.workIs(1, what), depot[what]);
      due.is("IRON " + what, x.workIs(2, what), iron[what]);
      due.is("WORK " + what, x.workIs(3, what), plain[what]);
    }
    due.is("workIs(4, 0)", x.workIs(4, 0), Due.BEYOND);
    due.is("workIs(-1, 0)", x.workIs(-1, 0), Due.BEYOND);
    due.is("workIs(0, 8)", x.workIs(0, 8), Due.BEYOND);
    due.is("workIs(0, -1)", x.workIs(0, -1), Due.BEYOND);
    x.lay(1, 77);
    x.fell(0);
    x.fell(1);
    int[] fallen = {1, 7, 9, 5, 1, -1, -1, 0};
    for (int what = 0; what < 8; what++) {
      due.is("POLE DOWN " + what, x.workIs(0, what), fallen[what]);
    }
    due.is("FOOD of a DEPOT that is DOWN", x.workIs(1, 6), 77);
    Due.type(x, "s*k-g-20");
    x.rate(2, 0);
    due.is("WANT by a RATE", x.workIs(2, 7), 80);
    due.is("WANT of no POLE", x.workIs(3, 7), 0);
  }

  private static void eaten() {
    DesertWire x = new DesertWire();
    x.land(1, 1, 0);
    x.land(2, 2, 0);
    for (int mile = 0; mile < 3; mile++) {
      x.work(1, mile, 1);
    }
    x.work(2, 0, 1);
    x.work(3, 0, 1);
    x.work(0, 0, 1);
    x.days(59);
    due.is("SAND on DAY 59", x.workIs(0, 4), 0);
    x.days(1);
    due.is("SAND on DAY 60", x.workIs(0, 4), 1);
    due.is("SAND on DAY 60", x.workIs(0, 5), -1);
    due.is("ROCK from DAY 60", x.workIs(1, 5), 120);
    x.days(59);
    due.is("ROCK on DAY 119", x.workIs(1, 4), 0);
    due.is("CLAY on DAY 119", x.workIs(2, 4), 0);
    x.days(1);
    due.is("ROCK on DAY 120", x.workIs(1, 4), 1);
    due.is("CLAY on DAY 120", x.workIs(2, 4), 1);
    x.days(200);
    due.is("IRON", x.workIs(3, 4), 0);
    due.is("STATION", x.workIs(4, 4), 0);
    due.is("WORK", x.workIs(5, 4), 0);
    due.is("count(1)", x.count(1), 3);
    x.work(1, 1, 1);
    x.days(80);
    due.is("on ROCK", x.workIs(6, 5), 440);
    x.land(1, 0, 0);
    due.is("in SAND, too late", x.workIs(6, 5), 401);
    due.is("it stands still", x.workIs(6, 4), 0);
    x.land(1, 2, 0);
    x.days(1);
    due.is("in CLAY it stands", x.workIs(6, 4), 0);
    x.land(1, 0, 0);
    x.days(1);
    due.is("in SAND it is eaten", x.workIs(6, 4), 1);
  }

  private static void fell() {
    DesertWire x = new DesertWire();
    x.work(1, 5, 1);
    x.work(2, 5, 1);
    due.is("fell(2)", x.fell(2), Due.BEYOND);
    due.is("fell(-1)", x.fell(-1), Due.BEYOND);
    due.is("fell(0)", x.fell(0), 1);
    due.is("fell(0) again", x.fell(0), Due.STATE);
    due.is("WIRED by the other one", x.mileIs(5, 2), 1);
    due.is("fell(1)", x.fell(1), 1);
    due.is("WIRED no more", x.mileIs(5, 2), 0);
    due.is("count(1)", x.count(1), 2);
    due.is("count(0)", x.count(0), 2);
    x.work(1, 5, 1);
    x.days(60);
    due.is("fell of an eaten one", x.fell(2), Due.STATE);
  }

  private static void lay() {
    DesertWire x = new DesertWire();
    x.work(4, 0, 1);
    x.work(5, 0, 1);
    due.is("lay(0, 1)", x.lay(0, 1), Due.KIND);
    due.is("lay(2, 1) of none", x.lay(2, 1), Due.BEYOND);
    due.is("lay(-1, 1)", x.lay(-1, 1), Due.BEYOND);
    due.is("lay(1, 0)", x.lay(1, 0), Due.BEYOND);
    due.is("lay(1, 10000)", x.lay(1, 10000), Due.BEYOND);
    due.is("lay(0, 10000)", x.lay(0, 10000), Due.BEYOND);
    due.is("lay(1, 9998)", x.lay(1, 9998), 9998);
    due.is("lay(1, 2)", x.lay(1, 2), Due.FULL);
    due.is("lay(1, 1)", x.lay(1, 1), 9999);
    due.is("lay(1, 1) again", x.lay(1, 1), Due.FULL);
    due.is("count(12)", x.count(12), 9999);
    x.work(5, 0, 1);
    due.is("lay(2, 9999)", x.lay(2, 9999), 9999);
    x.fell(2);
    x.fell(1);
    due.is("lay of one DOWN", x.lay(1, 1), Due.STATE);
    due.is("count(12) of one DOWN", x.count(12), 0);
  }

  private static void mileIs() {
    DesertWire x = new DesertWire();
    x.land(4, 2, 33);
    x.work(4, 4, 20);
    x.work(5, 4, 50);
    x.work(4, 4, 7);
    x.work(4, 5, 1);
    int[] mile = {2, 33, 0, -1, 40, 27};
    for (int what = 0; what < 6; what++) {
      due.is("mileIs(4, " + what + ")", x.mileIs(4, what), mile[what]);
    }
    x.fell(2);
    due.is("a WELL less", x.mileIs(4, 5), 20);
    due.is("mileIs(4, 6)", x.mileIs(4, 6), Due.BEYOND);
    due.is("mileIs(4, -1)", x.mileIs(4, -1), Due.BEYOND);
    due.is("mileIs(40, 0)", x.mileIs(40, 0), Due.BEYOND);
    due.is("mileIs(-1, 0)", x.mileIs(-1, 0), Due.BEYOND);
    x.land(6, 1, 0);
    due.is("EFFORT on ROCK", x.mileIs(6, 4), 40);
    due.is("EFFORT in SAND", x.mileIs(7, 4), 10);
    leaks(x);
  }

  private static void leaks(DesertWire x) {
    x.work(1, 6, 1);
    x.work(2, 7, 1);
    x.work(3, 8, 1);
    due.is("LEAK of a POLE", x.mileIs(6, 3), 3);
    due.is("LEAK of IRON", x.mileIs(7, 3), 1);
    due.is("LEAK of a STATION", x.mileIs(8, 3), 1);
    x.days(29);
    due.is("LEAK of a POLE on DAY 29", x.mileIs(6, 3), 3);
    x.days(1);
    due.is("LEAK of a POLE on DAY 30", x.mileIs(6, 3), 4);
    due.is("LEAK of IRON on DAY 30", x.mileIs(7, 3), 2);
    x.rain(1, 9);
    due.is("LEAK of a POLE in RAIN", x.mileIs(6, 3), 9);
    due.is("LEAK of IRON in RAIN", x.mileIs(7, 3), 4);
    x.work(2, 6, 1);
    due.is("the least LEAK", x.mileIs(6, 3), 4);
    x.rain(1, 0);
    x.work(1, 7, 1);
    due.is("LEAK of the new POLE", x.mileIs(7, 3), 1);
    x.rain(1, 1);
    due.is("LEAK of the old IRON", x.mileIs(7, 3), 1);
    x.fell(5);
    due.is("LEAK without IRON", x.mileIs(7, 3), 2);
  }

  private static void soils() {
    DesertWire x = new DesertWire();
    due.is("soils(0, 0) missing", x.soils(0, 0), Due.NONE);
    due.is("soils(4, 0)", x.soils(4, 0), Due.BEYOND);
    due.is("soils(-1, 0)", x.soils(-1, 0), Due.BEYOND);
    due.is("soils(0, 40)", x.soils(0, 40), Due.BEYOND);
    due.is("soils(0, -1)", x.soils(0, -1), Due.BEYOND);
    Due.fill(x, 0, 16, 1, -1, 2, 0);
    x.land(11, 1, 44);
    x.land(13, 2, 0);
    due.is("soils(0, 10)", x.soils(0, 10), 3);
    int[] soils = {1, 1, 2, 0};
    for (int i = 0; i < 4; i++) {
      due.is("SOIL " + (10 + i), x.mileIs(10 + i, 0), soils[i]);
    }
    due.is("SPRING stays", x.mileIs(11, 1), 44);
    due.is("soils(0, 36)", x.soils(0, 36), 3);
    due.is("soils(0, 37)", x.soils(0, 37), Due.STATE);
    x.put(0, 0, 3);
    due.is("soils(0, 37) with a 3", x.soils(0, 37), Due.STATE);
    due.is("soils(0, 20) with a 3", x.soils(0, 20), Due.KIND);
    x.put(0, 0, -2);
    due.is("soils(0, 20) with a -2", x.soils(0, 20), Due.KIND);
    due.is("nothing was told", x.mileIs(22, 0), 0);
    x.sheet(1, 8, 0);
    due.is("an empty SHEET", x.soils(1, 39), 0);
  }
}
