/** Promises 27 to 29: loads, meetings. */
public final class LoadsTest {
  private static final Due due = new Due("LoadsTest");

  public static void main(String[] args) {
    load();
    several();
    loadFindings();
    byTrying();
    againAndAgain();
    meeting();
    months();
    meetingsByDays();
    judge();
    meetingFindings();
    due.end();
  }

  /** One object packs again and again, more and fewer things for more and fewer BEASTS. */
  private static void againAndAgain() {
    int seed = 99;
    for (int round = 0; round < 6; round++) {
      DesertWire x = new DesertWire();
      for (int party = 0; party < 4; party++) {
        x.party(0, 1, 100 + (5 * party + round) % 7, 0);
      }
      for (int pack = 0; pack < 12; pack++) {
        int[] told = new int[3 * (1 + (7 * pack + round) % 5)];
        for (int i = 0; i < told.length; i += 3) {
          told[i] = 1 + ((seed = turned(seed)) >>> 4) % 12;
          told[i + 1] = ((seed = turned(seed)) >>> 4) % 30;
          told[i + 2] = 1 + ((seed = turned(seed)) >>> 4) % 3;
        }
        Due.fill(x, pack % 4, 16, told);
        int[] best = tried(told, 12 * x.partyIs(pack * 3 % 4, 3));
        for (int i = -2; i < told.length / 3; i++) {
          due.is("pack " + pack + " load " + i, x.load(pack * 3 % 4, pack % 4, i), best[i + 2]);
        }
      }
    }
  }

  private static DesertWire withBeasts(int beasts) {
    DesertWire x = new DesertWire();
    x.party(0, 1, 100 + beasts, 0);
    return x;
  }

  private static void load() {
    DesertWire x = withBeasts(2);
    Due.fill(x, 0, 16, 10, 60, 2, 5, 30, 3, 24, 150, 1);
    due.is("the worth", x.load(0, 0, -1), 150);
    due.is("the weight", x.load(0, 0, -2), 24);
    due.is("thing 2", x.load(0, 0, 2), 1);
    x.put(0, 7, 140);
    due.is("the worth", x.load(0, 0, -1), 140);
    x.put(0, 7, 119);
    due.is("the worth then", x.load(0, 0, -1), 120);
    due.is("the weight then", x.load(0, 0, -2), 20);
    due.is("thing 0", x.load(0, 0, 0), 2);
    due.is("thing 1", x.load(0, 0, 1), 0);
    DesertWire y = withBeasts(0);
    Due.fill(y, 0, 16, 1, 1, 1);
    due.is("without BEASTS", y.load(0, 0, -1), 0);
    due.is("without BEASTS", y.load(0, 0, 0), 0);
    DesertWire z = withBeasts(50);
    Due.fill(z, 0, 16, 40, 999, 3, 40, 999, 3, 40, 999, 3, 40, 999, 3, 40, 999, 3, 40, 998, 3);
    due.is("50 BEASTS", z.load(0, 0, -1), 15 * 999);
    due.is("50 BEASTS", z.load(0, 0, -2), 600);
    due.is("50 BEASTS", z.load(0, 0, 5), 0);
  }

  private static void several() {
    DesertWire x = withBeasts(1);
    Due.fill(x, 0, 16, 6, 10, 1, 4, 10, 1, 9, 10, 1);
    due.is("worth 20", x.load(0, 0, -1), 20);
    due.is("the least weight", x.load(0, 0, -2), 10);
    Due.fill(x, 0, 16, 6, 10, 1, 6, 10, 2, 12, 20, 1);
    due.is("the first by things", x.load(0, 0, 0), 1);
    due.is("the first by things", x.load(0, 0, 1), 1);
    Due.fill(x, 0, 16, 12, 20, 1, 6, 10, 2);
    due.is("the more of an earlier one", x.load(0, 0, 0), 1);
    due.is("the more of an earlier one", x.load(0, 0, 1), 0);
    Due.fill(x, 0, 16, 5, 0, 3);
    due.is("things of no worth stay", x.load(0, 0, 0), 0);
    due.is("things of no worth weigh nothing", x.load(0, 0, -2), 0);
  }

  private static void loadFindings() {
    DesertWire x = withBeasts(2);
    due.is("a missing SHEET", x.load(0, 0, 0), Due.NONE);
    due.is("load(1, 0, 0)", x.load(1, 0, 0), Due.BEYOND);
    due.is("load(-1, 0, 0)", x.load(-1, 0, 0), Due.BEYOND);
    due.is("load(0, 4, 0)", x.load(0, 4, 0), Due.BEYOND);
    due.is("load(0, -1, 0)", x.load(0, -1, 0), Due.BEYOND);
    due.is("load(0, 0, -3)", x.load(0, 0, -3), Due.BEYOND);
    for (int n = 0; n <= 36; n++) {
      x.sheet(0, 16, n);
      for (int i = 0; i < n; i++) {
        x.put(0, i, 1);
      }
      boolean fits = n == 3 || n == 6 || n == 9 || n == 12 || n == 15 || n == 18 || n == 21 || n == 24;
      due.is(n + " numbers", x.load(0, 0, -1), fits ? n / 3 : Due.KIND);
      due.is(n + " numbers, no thing", x.load(0, 0, n / 3), fits ? Due.STATE : Due.KIND);
      if (n == 24) {
        x = withBeasts(2);
      }
    }
    Due.fill(x, 0, 32, 1, 0, 1, 40, 999, 3);
    due.is("as told", x.load(0, 0, 0), 0);
    int[][] wrong = {{0, 0}, {0, 41}, {0, -1}, {1, -1}, {1, 1000}, {2, 0}, {2, 4}, {5, 4}, {4, -1}, {3, 41}};
    for (int[] w : wrong) {
      Due.fill(x, 0, 32, 1, 0, 1, 40, 999, 3);
      x.put(0, w[0], w[1]);
      due.is("number " + w[0] + " is " + w[1], x.load(0, 0, 9), Due.KIND);
    }
  }

  /** A row of numbers that goes round without a clock or a random source. */
  private static int turned(int seed) {
    int s = seed * 1103515245 + 12345;
    return s ^ s >>> 15;
  }

  private static void byTrying() {
    int seed = 7;
    for (int round = 0; round < 60; round++) {
      int[] told = new int[3 * (1 + round % 5)];
      for (int i = 0; i < told.length; i += 3) {
        told[i] = 1 + ((seed = turned(seed)) >>> 4) % (round % 2 == 0 ? 40 : 6);
        told[i + 1] = ((seed = turned(seed)) >>> 4) % (round % 3 == 0 ? 4 : 1000);
        told[i + 2] = 1 + ((seed = turned(seed)) >>> 4) % 3;
      }
      int beasts = round % 7;
      DesertWire x = withBeasts(beasts);
      Due.fill(x, 0, 32, told);
      int[] best = tried(told, 12 * beasts);
      for (int i = -2; i < told.length / 3; i++) {
        due.is("round " + round + " load(0, 0, " + i + ")", x.load(0, 0, i), best[i + 2]);
      }
    }
  }

  /** The weight, the worth, and how many of each, by trying all; the more of earlier ones first. */
  private static int[] tried(int[] told, int most) {
    int things = told.length / 3;
    int[] best = null;
    int[] n = new int[things];
    for (int i = 0; i < things; i++) {
      n[i] = told[3 * i + 2];
    }
    while (true) {
      int[] is = new int[things + 2];
      for (int i = 0; i < things; i++) {
        is[0] += n[i] * told[3 * i];
        is[1] += n[i] * told[3 * i + 1];
        is[i + 2] = n[i];
      }
      boolean better = best == null || is[1] > best[1] || is[1] == best[1] && is[0] < best[0];
      if (is[0] <= most && better) {
        best = is;
      }
      int at = things - 1;
      while (at >= 0 && n[at] == 0) {
        n[at] = told[3 * at + 2];
        at--;
      }
      if (at < 0) {
        return best;
      }
      n[at]--;
    }
  }

  private static DesertWire twoParties() {
    DesertWire x = new DesertWire();
    x.party(2, 1, 1002, 0);
    x.party(9, -1, 500, 0);
    x.sheet(0, 8, 12);
    return x;
  }

  private static void meeting() {
    DesertWire x = twoParties();
    due.is("x in SAND", x.meeting(0, 1, 0, 0), 6);
    due.is("days in SAND", x.meeting(0, 1, 0, 1), 9);
    x.rest(0, true);
    x.work(1, 3, 1);
    due.is("none WIRED ahead, at REST", x.meeting(0, 1, 0, 1), 9);
    x.land(5, 2, 0);
    x.put(0, 0, 9);
    due.is("x with CLAY", x.meeting(0, 1, 0, 0), 5);
    due.is("days with CLAY", x.meeting(0, 1, 0, 1), 17);
    DesertWire y = new DesertWire();
    y.party(0, 1, 300, 0);
    y.party(1, -1, 700, 0);
    Due.fill(y, 3, 32, new int[12]);
    due.is("side by side", y.meeting(0, 1, 3, 0), 0);
    due.is("4 DAYS, up", y.meeting(0, 1, 3, 1), 4);
    DesertWire z = new DesertWire();
    z.party(10, 1, 1000, 0);
    z.party(12, -1, 1000, 0);
    z.sheet(0, 8, 12);
    due.is("of several the least", z.meeting(0, 1, 0, 0), 10);
    due.is("days of the least", z.meeting(0, 1, 0, 1), 3);
  }

  private static void months() {
    DesertWire x = new DesertWire();
    x.party(0, 1, 100, 0);
    x.party(3, -1, 100, 0);
    x.land(0, 2, 0);
    x.land(1, 2, 0);
    x.sheet(0, 8, 24);
    x.put(0, 0, 1);
    x.put(0, 1, 8);
    due.is("up to MILE 0", x.judge(0, 1, 0, 0, 9999), 10 + 1 + 10 + 1 + 30);
    due.is("the MONTH in which a MILE is begun", x.judge(0, 1, 0, 1, 9999), 30 + 1 + 100);
    x.days(30);
    x.sheet(0, 8, 24);
    x.party(0, 1, 100, 0);
    x.party(3, -1, 100, 0);
    x.put(0, 1, 1);
    x.put(0, 12 + 1, 3);
    x.put(0, 12 + 2, 2);
    due.is("both LOST", x.judge(0, 1, 0, 1, 9999), Due.STATE);
    due.is("the first row is worse", x.judge(2, 3, 0, 1, 9999), 50 + 1 + 40);
    x.put(0, 2, 7);
    due.is("the other one is worse", x.judge(2, 3, 0, 1, 9999), 30 + 1 + 90);
    DesertWire y = new DesertWire();
    y.days(200);
    y.days(159);
    y.party(0, 1, 100, 0);
    y.party(39, -1, 5000, 0);
    y.land(0, 2, 0);
    y.land(1, 2, 0);
    y.sheet(0, 8, 12);
    y.put(0, 0, 5);
    due.is("behind MONTH 11 comes MONTH 0", y.judge(0, 1, 0, 1, 9999), Math.max(20 + 1 + 70, 38 + 37));
  }

  private static int daysOf(int[] soils, int[] rains, int day, int from, int to, int men) {
    int way = from <= to ? 1 : -1;
    int now = day;
    for (int mile = from; mile != to + way; mile += way) {
      int month = now / 30 % 12;
      int effort = soils[mile] == 0 ? 10 : soils[mile] == 1 ? 40 : 20 + 10 * rains[month];
      for (int dug = 0; dug < effort; dug += men) {
        now++;
      }
      now += mile == to ? 0 : 1;
    }
    return now - day;
  }

  /** Each x of meetings of one object told again, DAY by DAY. */
  private static void meetingsByDays() {
    int seed = 5;
    for (int round = 0; round < 40; round++) {
      DesertWire x = new DesertWire();
      int[] soils = new int[40];
      for (int mile = 0; mile < 40; mile++) {
        soils[mile] = ((seed = turned(seed)) >>> 4) % 3;
        x.land(mile, soils[mile], 0);
      }
      int day = 100 * (round % 5);
      for (int i = 0; i < round % 5; i++) {
        x.days(100);
      }
      for (int pair = 0; pair < 2; pair++) {
        int a = round % 4;
        int b = a + 1 + ((seed = turned(seed)) >>> 4) % (pair == 0 ? 12 : 35);
        int menA = 1 + ((seed = turned(seed)) >>> 4) % 12;
        int menB = 1 + ((seed = turned(seed)) >>> 4) % 12;
        x.party(a, 1, 100 * menA, 0);
        x.party(b, -1, 100 * menB, 0);
        int[][] rains = new int[1 + round % 3][12];
        x.sheet(1, 8, 12 * rains.length);
        for (int i = 0; i < 12 * rains.length; i++) {
          rains[i / 12][i % 12] = ((seed = turned(seed)) >>> 4) % 10;
          x.put(1, i, rains[i / 12][i % 12]);
        }
        int best = -1;
        int least = 0;
        for (int mile = a; mile < b; mile++) {
          int worst = 0;
          for (int[] row : rains) {
            worst = Math.max(worst, daysOf(soils, row, day, a, mile, menA));
            worst = Math.max(worst, daysOf(soils, row, day, b, mile + 1, menB));
          }
          due.is("round " + round + " judge " + mile, x.judge(2 * pair, 2 * pair + 1, 1, mile, 9999), worst);
          if (best < 0 || worst < least) {
            best = mile;
            least = worst;
          }
        }
        due.is("round " + round + " x", x.meeting(2 * pair, 2 * pair + 1, 1, 0), best);
        due.is("round " + round + " days", x.meeting(2 * pair, 2 * pair + 1, 1, 1), least);
      }
    }
  }

  private static void judge() {
    DesertWire x = twoParties();
    due.is("judge(.., 6, 9)", x.judge(0, 1, 0, 6, 9), 9);
    due.is("judge(.., 6, 8)", x.judge(0, 1, 0, 6, 8), -1);
    due.is("judge(.., 6, 0)", x.judge(0, 1, 0, 6, 0), -1);
    due.is("judge(.., 6, 9999)", x.judge(0, 1, 0, 6, 9999), 9);
    due.is("judge(.., 2, 9999)", x.judge(0, 1, 0, 2, 9999), 20);
    due.is("judge(.., 8, 9999)", x.judge(0, 1, 0, 8, 9999), 13);
    due.is("judge(.., 1, 9999)", x.judge(0, 1, 0, 1, 9999), Due.BEYOND);
    due.is("judge(.., 9, 9999)", x.judge(0, 1, 0, 9, 9999), Due.BEYOND);
    due.is("judge(.., 6, 10000)", x.judge(0, 1, 0, 6, 10000), Due.BEYOND);
    due.is("judge(.., 6, -1)", x.judge(0, 1, 0, 6, -1), Due.BEYOND);
    due.is("judge(2, ..)", x.judge(2, 1, 0, 6, 9), Due.BEYOND);
    due.is("judge(0, -1, ..)", x.judge(0, -1, 0, 6, 9), Due.BEYOND);
    due.is("judge of no SHEET", x.judge(0, 1, 4, 6, 9), Due.BEYOND);
    due.is("judge of a missing SHEET", x.judge(0, 1, 1, 6, 9), Due.NONE);
    due.is("judge of a missing SHEET, x beyond", x.judge(0, 1, 1, 60, 9), Due.NONE);
    due.is("judge of a missing SHEET, days beyond", x.judge(0, 1, 1, 6, -1), Due.BEYOND);
    due.is("STATE ahead of BEYOND of x", x.judge(1, 0, 0, -1, 9), Due.STATE);
    x.put(0, 11, 10);
    due.is("KIND ahead of BEYOND of x", x.judge(0, 1, 0, -1, 9), Due.KIND);
    due.is("KIND ahead of STATE", x.judge(1, 0, 0, -1, 9), Due.KIND);
  }

  private static void meetingFindings() {
    DesertWire x = twoParties();
    due.is("what 2", x.meeting(0, 1, 0, 2), Due.BEYOND);
    due.is("what -1", x.meeting(0, 1, 0, -1), Due.BEYOND);
    due.is("PARTY 2", x.meeting(0, 2, 0, 0), Due.BEYOND);
    due.is("PARTY -1", x.meeting(-1, 1, 0, 0), Due.BEYOND);
    due.is("SHEET 4", x.meeting(0, 1, 4, 0), Due.BEYOND);
    due.is("SHEET -1", x.meeting(0, 1, -1, 0), Due.BEYOND);
    due.is("a missing SHEET", x.meeting(1, 0, 3, 0), Due.NONE);
    for (int n = 0; n <= 36; n++) {
      x.sheet(1, 8, n);
      boolean fits = n == 12 || n == 24 || n == 36;
      due.is(n + " numbers", x.meeting(0, 1, 1, 0), fits ? 6 : Due.KIND);
    }
    x.put(1, 35, 9);
    due.is("a RAIN of 9", x.meeting(0, 1, 1, 0), 6);
    x.put(1, 35, 10);
    due.is("a RAIN of 10", x.meeting(0, 1, 1, 0), Due.KIND);
    x.put(1, 35, -1);
    due.is("a RAIN of -1", x.meeting(0, 1, 1, 0), Due.KIND);
    due.is("WAYS -1 and 1", x.meeting(1, 0, 0, 0), Due.STATE);
    due.is("one with itself", x.meeting(0, 0, 0, 0), Due.STATE);
    x.turn(1);
    due.is("WAYS 1 and 1", x.meeting(0, 1, 0, 0), Due.STATE);
    x.turn(1);
    x.turn(0);
    due.is("WAYS -1 and -1", x.meeting(0, 1, 0, 0), Due.STATE);
    x.turn(0);
    x.party(2, -1, 100, 0);
    due.is("in one MILE", x.meeting(0, 2, 0, 0), Due.STATE);
    x.party(1, -1, 100, 0);
    due.is("in a lesser MILE", x.meeting(0, 3, 0, 0), Due.STATE);
    x.give(0, 0, 999);
    x.give(0, 1, 999);
    x.rest(0, true);
    x.rest(1, true);
    x.days(6);
    due.is("one is LOST", x.meeting(0, 1, 0, 0), Due.STATE);
    due.is("which", x.partyIs(1, 8), 2);
  }
}
