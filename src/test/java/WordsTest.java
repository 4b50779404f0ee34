/** Promises 17 to 21: words and breaks. */
public final class WordsTest {
  private static final Due due = new Due("WordsTest");

  public static void main(String[] args) {
    reach();
    reads();
    hands();
    leastHands();
    slip();
    slipFindings();
    broke();
    due.end();
  }

  private static void reach() {
    DesertWire x = new DesertWire();
    due.is("reach(0)", x.reach(0), Due.BEYOND);
    due.is("reach(201)", x.reach(201), Due.BEYOND);
    due.is("reach(-1)", x.reach(-1), Due.BEYOND);
    due.is("reach(200)", x.reach(200), 40);
    due.is("reach(1)", x.reach(1), 200);
    due.is("reach(7)", x.reach(7), 1);
  }

  /** STATIONS in MILES 0 and 4, POLES of LEAK 3 between. */
  private static DesertWire wire() {
    DesertWire x = new DesertWire();
    x.work(3, 0, 1);
    x.work(1, 1, 1);
    x.work(1, 2, 1);
    x.work(1, 3, 1);
    x.work(3, 4, 1);
    return x;
  }

  private static void reads() {
    DesertWire x = wire();
    due.is("reads(0, 5)", x.reads(0, 5), Due.BEYOND);
    due.is("reads(-1, 0)", x.reads(-1, 0), Due.BEYOND);
    due.is("reads(1, 1)", x.reads(1, 1), Due.BEYOND);
    due.is("reads(1, 0)", x.reads(1, 0), Due.KIND);
    due.is("reads(0, 1)", x.reads(0, 1), Due.KIND);
    due.is("reads(0, 4)", x.reads(0, 4), 1);
    x.reach(9);
    due.is("just within REACH", x.reads(0, 4), 1);
    due.is("back", x.reads(4, 0), 1);
    x.reach(8);
    due.is("beyond REACH", x.reads(0, 4), 0);
    x.work(2, 2, 1);
    due.is("by IRON within REACH", x.reads(0, 4), 1);
    x.reach(200);
    x.fell(3);
    due.is("a gap", x.reads(0, 4), 0);
    x.work(1, 3, 1);
    due.is("no gap", x.reads(0, 4), 1);
    x.work(3, 0, 1);
    due.is("in one MILE", x.reads(0, 7), 1);
    x.fell(0);
    due.is("a STATION that is DOWN reads nothing", x.reads(0, 4), 0);
    due.is("in one MILE neither", x.reads(0, 7), 0);
    due.is("nor is it read", x.reads(7, 0), 0);
    due.is("the other one reads", x.reads(7, 4), 1);
    DesertWire z = new DesertWire();
    z.rain(0, 0);
    z.work(3, 0, 1);
    for (int mile = 1; mile < 12; mile++) {
      z.work(2, mile, 1);
    }
    z.work(3, 12, 1);
    z.reach(1);
    due.is("LEAKS of 0 are no gaps", z.reads(0, 12), 1);
    z.rain(0, 1);
    due.is("LEAKS of 1", z.reads(0, 12), 0);
    DesertWire y = new DesertWire();
    y.work(3, 38, 1);
    y.work(3, 39, 1);
    y.reach(1);
    y.rain(0, 9);
    due.is("nothing between", y.reads(0, 1), 1);
    y.days(60);
    due.is("nothing between on DAY 60", y.reads(1, 0), 1);
  }

  private static void hands() {
    DesertWire x = wire();
    due.is("hands(0, 5, -1)", x.hands(0, 5, -1), Due.BEYOND);
    due.is("hands(5, 0, -1)", x.hands(5, 0, -1), Due.BEYOND);
    due.is("hands(0, 0, -1)", x.hands(0, 0, -1), Due.BEYOND);
    due.is("hands(0, 4, -2)", x.hands(0, 4, -2), Due.BEYOND);
    due.is("hands(0, 1, -2)", x.hands(0, 1, -2), Due.BEYOND);
    due.is("hands(0, 1, -1)", x.hands(0, 1, -1), Due.KIND);
    due.is("hands(1, 0, 5)", x.hands(1, 0, 5), Due.KIND);
    due.is("hands(0, 4, -1)", x.hands(0, 4, -1), 2);
    due.is("hands(0, 4, 0)", x.hands(0, 4, 0), 0);
    due.is("hands(0, 4, 1)", x.hands(0, 4, 1), 4);
    due.is("hands(0, 4, 2)", x.hands(0, 4, 2), Due.NONE);
    due.is("hands(4, 0, 0)", x.hands(4, 0, 0), 4);
    x.reach(3);
    due.is("beyond REACH", x.hands(0, 4, -1), Due.NONE);
    x.work(3, 2, 1);
    due.is("by a third one", x.hands(0, 4, -1), 3);
    due.is("the third one", x.hands(0, 4, 1), 5);
    x.fell(5);
    x.work(1, 2, 1);
    due.is("not by one that is DOWN", x.hands(0, 4, -1), Due.NONE);
  }

  private static void leastHands() {
    DesertWire x = new DesertWire();
    x.reach(1);
    int[] miles = {0, 4, 2, 2, 1, 1, 3, 0};
    for (int mile : miles) {
      x.work(3, mile, 1);
    }
    due.is("hands(0, 1, -1)", x.hands(0, 1, -1), 3);
    due.is("the least of two", x.hands(0, 1, 1), 2);
    due.is("back", x.hands(1, 0, 1), 2);
    x.fell(2);
    due.is("the next one", x.hands(0, 1, 1), 3);
    x.fell(3);
    due.is("MILE 2 has none", x.hands(0, 1, -1), Due.NONE);
    x.work(2, 2, 1);
    due.is("by 1 and 3", x.hands(0, 1, -1), 4);
    due.is("the first hand", x.hands(0, 1, 1), 4);
    due.is("the second hand", x.hands(0, 1, 2), 6);
    due.is("back, the first hand", x.hands(1, 0, 1), 6);
    due.is("back, the second hand", x.hands(1, 0, 2), 4);
    DesertWire z = new DesertWire();
    z.reach(1);
    z.work(3, 2, 1);
    z.work(3, 4, 1);
    z.work(3, 0, 1);
    z.work(2, 1, 1);
    z.work(1, 3, 1);
    z.work(2, 3, 1);
    z.rain(0, 1);
    due.is("by STATION 0", z.hands(1, 2, 1), 0);
    DesertWire y = new DesertWire();
    for (int i = 0; i < 40; i++) {
      y.work(3, 39 - i, 1);
    }
    y.reach(1);
    y.days(200);
    due.is("from hand to hand", y.hands(0, 39, -1), 40);
    for (int i = 0; i < 40; i++) {
      due.is("each hand", y.hands(0, 39, i), i);
    }
  }

  /** Five STATIONS, each of which reads only the next one. */
  private static DesertWire chain() {
    DesertWire x = new DesertWire();
    for (int mile = 0; mile < 5; mile++) {
      x.work(3, mile, 1);
    }
    x.rain(0, 9);
    x.reach(1);
    return x;
  }

  private static void slip() {
    DesertWire x = chain();
    due.is("five hands", x.hands(0, 4, -1), 5);
    int[][] copies = {
      {7, 7, 7, 7, 7}, {7, 8, 8, 7, 7}, {-1, -1, 3, -1, 4}, {5, -1, -1, -1, 6},
      {-1, -1, -1, -1, -1}, {1, 2, 1, 2, 1}, {-1, 9, -1, 9, -1}, {-2, -1, -2, -3, -1},
    };
    int[][] slips = {
      {}, {101, 303}, {304}, {104}, {}, {101, 202, 303, 404}, {}, {303},
    };
    for (int row = 0; row < copies.length; row++) {
      Due.fill(x, 2, 16, copies[row]);
      due.is("slips of row " + row, x.slip(2, 0, 4, -1), slips[row].length);
      for (int i = 0; i < slips[row].length; i++) {
        due.is("slip " + i + " of row " + row, x.slip(2, 0, 4, i), slips[row][i]);
      }
      due.is("no more in row " + row, x.slip(2, 0, 4, slips[row].length), Due.NONE);
    }
  }

  private static void slipFindings() {
    DesertWire x = chain();
    x.work(1, 0, 1);
    Due.fill(x, 0, 8, 1, 2, 3, 4, 5);
    due.is("slip(4, ..)", x.slip(4, 0, 4, 0), Due.BEYOND);
    due.is("slip(-1, ..)", x.slip(-1, 0, 4, 0), Due.BEYOND);
    due.is("slip of no WORK", x.slip(0, 0, 6, 0), Due.BEYOND);
    due.is("slip of no WORK", x.slip(0, -1, 4, 0), Due.BEYOND);
    due.is("slip of one", x.slip(0, 4, 4, 0), Due.BEYOND);
    due.is("slip with -2", x.slip(0, 0, 4, -2), Due.BEYOND);
    due.is("slip of a POLE", x.slip(0, 0, 5, 0), Due.KIND);
    due.is("slip of a POLE without a SHEET", x.slip(1, 5, 0, 0), Due.KIND);
    due.is("slip without a SHEET", x.slip(1, 0, 4, 0), Due.NONE);
    due.is("too many numbers", x.slip(0, 0, 3, -1), Due.STATE);
    due.is("too many numbers, with a slip", x.slip(0, 0, 3, 3), Due.STATE);
    due.is("too many numbers, no i-th", x.slip(0, 0, 3, 4), Due.NONE);
    Due.fill(x, 0, 8, 1, 2, 3, 4);
    due.is("too few numbers", x.slip(0, 0, 4, 0), Due.STATE);
    due.is("slip(0, 0, 3, 2)", x.slip(0, 0, 3, 2), 303);
    x.fell(2);
    due.is("no way", x.slip(0, 0, 3, -1), Due.NONE);
    due.is("no way, too few numbers", x.slip(0, 0, 4, -1), Due.NONE);
  }

  private static void broke() {
    DesertWire x = new DesertWire();
    due.is("broke(3, 2, 5, 12, 4, 6)", x.broke(3, 2, 5, 12, 4, 6), 608);
    due.is("by a alone", x.broke(3, 2, 5, 12, 0, 39), 508);
    due.is("by b alone", x.broke(3, 0, 39, 12, 4, 6), 608);
    due.is("one MILE", x.broke(0, 4, 9, 10, 2, 6), 408);
    due.is("touching", x.broke(0, 5, 9, 10, 5, 9), 505);
    due.is("not touching", x.broke(0, 6, 9, 10, 5, 9), Due.NONE);
    due.is("no further than b", x.broke(30, 0, 39, 39, 0, 39), 3039);
    due.is("behind b", x.broke(3, 10, 12, 12, 0, 39), Due.NONE);
    due.is("at b", x.broke(3, 9, 12, 12, 0, 39), 1212);
    due.is("ahead of a", x.broke(3, 0, 39, 12, 10, 39), Due.NONE);
    due.is("at a", x.broke(3, 0, 39, 12, 9, 39), 303);
    due.is("in MILE 0", x.broke(0, 0, 0, 1, 0, 1), 0);
    int[][] beyond = {
      {-1, 0, 1, 5, 0, 1}, {40, 0, 1, 41, 0, 1}, {5, 0, 1, 5, 0, 1}, {6, 0, 1, 5, 0, 1},
      {0, 0, 1, 40, 0, 1}, {0, -1, 1, 5, 0, 1}, {0, 2, 1, 5, 0, 1}, {0, 0, 40, 5, 0, 1},
      {0, 0, 1, 5, -1, 1}, {0, 0, 1, 5, 2, 1}, {0, 0, 1, 5, 0, 40}, {0, 40, 40, 5, 0, 1},
    };
    for (int[] b : beyond) {
      due.is("broke beyond", x.broke(b[0], b[1], b[2], b[3], b[4], b[5]), Due.BEYOND);
    }
    int huge = Integer.MAX_VALUE;
    due.is("huge", x.broke(0, huge, huge, 5, 0, 1), Due.BEYOND);
    due.is("huge", x.broke(0, 0, 1, 5, huge, huge), Due.BEYOND);
  }
}
