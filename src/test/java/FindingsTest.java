import java.util.ArrayList;
import java.util.List;

/**
 * Every finding that a promise names, asked at the edges of what is taken and far beyond them: the
 * answer, that found() tells it and no other one, and that nothing else changes. Where two findings
 * hold at once, the one that is asked first is told. What stands at the edges is taken.
 */
public final class FindingsTest {
  private static final Due due = new Due("FindingsTest");

  private static final int POLE = 0;
  private static final int DEPOT = 1;
  private static final int WELL = 2;
  private static final int FIRST = 3;
  private static final int SECOND = 4;
  private static final int THIRD = 5;
  private static final int LONELY = 6;
  private static final int PLAIN = 7;
  private static final int DEPOT_DOWN = 8;
  private static final int POLE_DOWN = 9;
  private static final int LAST_WORK = 9;

  private static final int TEN_MEN = 0;
  private static final int MANY_MEN = 1;
  private static final int ELSEWHERE = 2;
  private static final int LOST = 3;

  private static final int RAINS = 0;
  private static final int THINGS = 1;
  private static final int COPIES = 2;
  private static final int MISSING = 3;

  private interface Act {
    int on(DesertWire x);
  }

  public static void main(String[] args) {
    land();
    works();
    depots();
    soils();
    party();
    give();
    hand();
    reads();
    hands();
    slip();
    broke();
    tape();
    rates();
    load();
    meeting();
    judge();
    days();
    joined();
    voices();
    sheets();
    move();
    images();
    counts();
    asking();
    due.end();
  }

  /** Something of everything: the names of what stands here are the constants above. */
  private static DesertWire ready() {
    DesertWire x = new DesertWire();
    x.rain(0, 3);
    x.land(3, 1, 9);
    int[][] works = {
      {1, 3, 4}, {5, 3, 4}, {4, 3, 4}, {3, 10, 6}, {3, 11, 6}, {3, 12, 6}, {3, 30, 6}, {0, 5, 9},
      {5, 3, 4}, {1, 3, 1},
    };
    for (int[] w : works) {
      x.work(w[0], w[1], w[2]);
    }
    x.lay(DEPOT, 90);
    x.lay(DEPOT_DOWN, 50);
    x.fell(DEPOT_DOWN);
    x.fell(POLE_DOWN);
    x.image();
    x.party(5, 1, 1002, 3);
    x.party(5, -1, 4500, 0);
    x.party(9, -1, 500, 98);
    x.party(5, 1, 100, 60);
    for (int party = 0; party < LOST; party++) {
      x.give(party, 0, 500);
      x.give(party, 1, 600);
      x.rest(party, true);
    }
    x.days(1);
    // Each of FIRST, SECOND, THIRD reads the next one alone.
    x.reach(1);
    x.sheet(RAINS, 8, 12);
    x.put(RAINS, 0, 1);
    Due.fill(x, THINGS, 16, 2, 1, 1, 1, 2, 2);
    Due.fill(x, COPIES, 8, 1, 2, 2);
    Due.type(x, "n+c+m");
    x.rate(0, 0);
    Due.type(x, "l*3");
    x.tell(5);
    x.tell(-1);
    x.voice(FIRST, 3, 7);
    return x;
  }

  /** Most of what can be asked; what changes something by being asked comes last. */
  private static List<Integer> seen(DesertWire x) {
    List<Integer> all = new ArrayList<>();
    counted(x, all);
    for (int mile = 0; mile < 40; mile++) {
      for (int what : new int[] {0, 1, 3, 5}) {
        all.add(x.mileIs(mile, what));
      }
    }
    for (int work = 0; work <= LAST_WORK; work++) {
      for (int what : new int[] {2, 3, 4, 6}) {
        all.add(x.workIs(work, what));
      }
    }
    for (int party = 0; party < 4; party++) {
      for (int what = 0; what < 9; what++) {
        all.add(x.partyIs(party, what));
      }
    }
    for (int use = 0; use < 3; use++) {
      all.add(x.force(use, 2000));
      all.add(x.price(use, 3, 4, 5));
    }
    for (int i = 0; i < 19; i++) {
      all.add(x.trace(i));
    }
    onSheets(x, all);
    changing(x, all);
    return all;
  }

  private static void counted(DesertWire x, List<Integer> all) {
    for (int what = 0; what <= 12; what++) {
      all.add(x.count(what));
    }
  }

  /** The SHEETS' numbers as SOIL: they are put where no other one of them is. */
  private static void onSheets(DesertWire x, List<Integer> all) {
    all.add(x.soils(RAINS, 0));
    all.add(x.soils(THINGS, 12));
    all.add(x.soils(COPIES, 18));
    all.add(x.soils(MISSING, 21));
    for (int mile = 0; mile < 21; mile++) {
      all.add(x.mileIs(mile, 0));
    }
  }

  private static void changing(DesertWire x, List<Integer> all) {
    for (int month = 0; month < 12; month++) {
      all.add(x.rain(month, 2));
    }
    all.add(x.reach(40));
    all.add(x.tell(0));
    all.add(x.check());
    all.add(x.rate(1, 0));
    all.add(x.price(1, 7, 0, 0));
    all.add(x.restore());
    counted(x, all);
    all.add(x.image());
  }

  private static void refused(String call, int want, Act act) {
    refusedBehind(x -> 0, call, want, act);
  }

  private static void refusedBehind(Act ahead, String call, int want, Act act) {
    DesertWire x = ready();
    DesertWire untouched = ready();
    ahead.on(x);
    ahead.on(untouched);
    int[] was = new int[6];
    for (int k = 1; k <= 5; k++) {
      was[k] = x.found(k);
    }
    due.is(call, act.on(x), want);
    for (int k = 1; k <= 5; k++) {
      due.is(call + ": found(" + k + ")", x.found(k), was[k] + (want == -1000000 - k ? 1 : 0));
    }
    due.is(call + " changes nothing else", seen(x).equals(seen(untouched)) ? 1 : 0, 1);
  }

  private static void taken(String call, int want, Act act) {
    takenBehind(x -> 0, call, want, act);
  }

  private static void takenBehind(Act ahead, String call, int want, Act act) {
    DesertWire x = ready();
    ahead.on(x);
    int was = findings(x);
    due.is(call, act.on(x), want);
    due.is(call + " is no finding", findings(x), was);
  }

  private static int findings(DesertWire x) {
    int sum = 0;
    for (int k = 1; k <= 5; k++) {
      sum += x.found(k);
    }
    return sum;
  }

  /** What is not from the least to the most: next to them, and as far from them as can be. */
  private static int[] outside(int least, int most) {
    return new int[] {Integer.MIN_VALUE, least - 1, most + 1, Integer.MAX_VALUE};
  }

  private static int[] below(int least) {
    return new int[] {Integer.MIN_VALUE, least - 1};
  }

  private static int fullOfWorks(DesertWire x) {
    for (int work = LAST_WORK + 1; work < 60; work++) {
      x.work(0, 39, 1);
    }
    return 0;
  }

  /** Promises 2, 3 and 9. */
  private static void land() {
    for (int v : outside(0, 11)) {
      refused("rain(" + v + ", 1)", Due.BEYOND, x -> x.rain(v, 1));
    }
    for (int v : outside(0, 9)) {
      refused("rain(0, " + v + ")", Due.BEYOND, x -> x.rain(0, v));
    }
    taken("rain(0, 9)", 3, x -> x.rain(0, 9));
    taken("rain(11, 0)", 2, x -> x.rain(11, 0));
    for (int v : outside(0, 39)) {
      refused("land(" + v + ", 1, 1)", Due.BEYOND, x -> x.land(v, 1, 1));
      refused("mileIs(" + v + ", 0)", Due.BEYOND, x -> x.mileIs(v, 0));
    }
    for (int v : outside(0, 2)) {
      refused("land(3, " + v + ", 1)", Due.BEYOND, x -> x.land(3, v, 1));
    }
    for (int v : outside(0, 99)) {
      refused("land(3, 1, " + v + ")", Due.BEYOND, x -> x.land(3, 1, v));
    }
    for (int v : outside(0, 5)) {
      refused("mileIs(3, " + v + ")", Due.BEYOND, x -> x.mileIs(3, v));
    }
    taken("land(0, 2, 99)", 0, x -> x.land(0, 2, 99));
    taken("land(39, 0, 0)", 0, x -> x.land(39, 0, 0));
    taken("land(3, 0, 0)", 109, x -> x.land(3, 0, 0));
    taken("mileIs(0, 0)", 0, x -> x.mileIs(0, 0));
    taken("mileIs(39, 5)", 0, x -> x.mileIs(39, 5));
  }

  /** Promises 4 to 7. */
  private static void works() {
    for (int v : outside(0, 5)) {
      refused("work(" + v + ", 1, 1)", Due.BEYOND, x -> x.work(v, 1, 1));
      refusedBehind(FindingsTest::fullOfWorks, "work(" + v + ", 1, 1) without room", Due.BEYOND,
          x -> x.work(v, 1, 1));
      refused("as(POLE, " + v + ")", Due.BEYOND, x -> x.as(POLE, v));
    }
    for (int v : outside(0, 39)) {
      refused("work(1, " + v + ", 1)", Due.BEYOND, x -> x.work(1, v, 1));
      refusedBehind(FindingsTest::fullOfWorks, "work(1, " + v + ", 1) without room", Due.BEYOND,
          x -> x.work(1, v, 1));
    }
    for (int v : outside(1, 50)) {
      refused("work(1, 1, " + v + ")", Due.BEYOND, x -> x.work(1, 1, v));
      refusedBehind(FindingsTest::fullOfWorks, "work(1, 1, " + v + ") without room", Due.BEYOND,
          x -> x.work(1, 1, v));
    }
    refusedBehind(FindingsTest::fullOfWorks, "a 61st WORK", Due.FULL, x -> x.work(0, 0, 1));
    taken("work(0, 0, 1)", LAST_WORK + 1, x -> x.work(0, 0, 1));
    taken("work(5, 39, 50)", LAST_WORK + 1, x -> x.work(5, 39, 50));
    for (int v : outside(0, LAST_WORK)) {
      refused("as(" + v + ", 0)", Due.BEYOND, x -> x.as(v, 0));
      refused("workIs(" + v + ", 0)", Due.BEYOND, x -> x.workIs(v, 0));
      refused("fell(" + v + ")", Due.BEYOND, x -> x.fell(v));
    }
    refused("as(POLE, 2): of a KIND under it", Due.KIND, x -> x.as(POLE, 2));
    refused("as(POLE, 4): of another KIND", Due.KIND, x -> x.as(POLE, 4));
    refused("as(WELL, 5): of a KIND under it", Due.KIND, x -> x.as(WELL, 5));
    refused("as(PLAIN, 1)", Due.KIND, x -> x.as(PLAIN, 1));
    refused("as(PLAIN, 6): BEYOND ahead of KIND", Due.BEYOND, x -> x.as(PLAIN, 6));
    taken("as(FIRST, 3)", 6, x -> x.as(FIRST, 3));
    taken("as(DEPOT, 0)", 4, x -> x.as(DEPOT, 0));
    for (int v : outside(0, 7)) {
      refused("workIs(POLE, " + v + ")", Due.BEYOND, x -> x.workIs(POLE, v));
    }
    taken("workIs(POLE_DOWN, 7)", 0, x -> x.workIs(POLE_DOWN, 7));
    refused("fell of one that is DOWN", Due.STATE, x -> x.fell(POLE_DOWN));
    taken("fell(0)", 1, x -> x.fell(0));
  }

  /** Promise 8. */
  private static void depots() {
    for (int v : outside(0, LAST_WORK)) {
      refused("lay(" + v + ", 1)", Due.BEYOND, x -> x.lay(v, 1));
    }
    for (int v : outside(1, 9999)) {
      refused("lay(DEPOT, " + v + ")", Due.BEYOND, x -> x.lay(DEPOT, v));
      refused("lay(WELL, " + v + "): BEYOND ahead of KIND", Due.BEYOND, x -> x.lay(WELL, v));
      refused("lay(DEPOT_DOWN, " + v + "): BEYOND ahead of STATE", Due.BEYOND, x -> x.lay(DEPOT_DOWN, v));
    }
    for (int work : new int[] {POLE, WELL, FIRST, PLAIN}) {
      refused("lay(" + work + ", 1) in no DEPOT", Due.KIND, x -> x.lay(work, 1));
    }
    refused("lay(POLE_DOWN, 1): KIND ahead of STATE", Due.KIND, x -> x.lay(POLE_DOWN, 1));
    refused("lay(DEPOT_DOWN, 1)", Due.STATE, x -> x.lay(DEPOT_DOWN, 1));
    refused("lay(DEPOT_DOWN, 9999): STATE ahead of FULL", Due.STATE, x -> x.lay(DEPOT_DOWN, 9999));
    refused("lay(DEPOT, 9910): above 9999", Due.FULL, x -> x.lay(DEPOT, 9910));
    refused("lay(DEPOT, 9999): above 9999", Due.FULL, x -> x.lay(DEPOT, 9999));
    taken("lay(DEPOT, 9909): 9999", 9999, x -> x.lay(DEPOT, 9909));
    taken("lay(DEPOT, 1)", 91, x -> x.lay(DEPOT, 1));
  }

  /** Promise 10. */
  private static void soils() {
    for (int v : outside(0, 3)) {
      refused("soils(" + v + ", 0)", Due.BEYOND, x -> x.soils(v, 0));
    }
    for (int v : outside(0, 39)) {
      refused("soils(COPIES, " + v + ")", Due.BEYOND, x -> x.soils(COPIES, v));
      refused("soils(MISSING, " + v + "): BEYOND ahead of NONE", Due.BEYOND, x -> x.soils(MISSING, v));
    }
    refused("soils(MISSING, 0)", Due.NONE, x -> x.soils(MISSING, 0));
    refused("soils(COPIES, 38): the land ends", Due.STATE, x -> x.soils(COPIES, 38));
    refused("soils(RAINS, 39): the land ends", Due.STATE, x -> x.soils(RAINS, 39));
    taken("soils(COPIES, 37): the land ends with it", 3, x -> x.soils(COPIES, 37));
    for (int v : new int[] {-2, 3, -128, 127}) {
      for (int i = 0; i < 3; i++) {
        int at = i;
        Act ahead = x -> x.put(COPIES, at, v);
        refusedBehind(ahead, "soils with a " + v + " at " + i, Due.KIND, x -> x.soils(COPIES, 20));
        refusedBehind(ahead, "soils with a " + v + ": STATE ahead of KIND", Due.STATE,
            x -> x.soils(COPIES, 38));
      }
    }
    takenBehind(x -> x.put(COPIES, 2, -1), "soils with a -1", 2, x -> x.soils(COPIES, 20));
    takenBehind(x -> x.sheet(COPIES, 8, 0), "soils of an empty SHEET", 0, x -> x.soils(COPIES, 39));
  }

  /** Promises 11, 12, 14 and 15. The IMAGE has no PARTIES: behind restore() there is room. */
  private static void party() {
    Act room = x -> x.restore();
    for (Act ahead : new Act[] {room, x -> 0}) {
      for (int v : outside(0, 39)) {
        refusedBehind(ahead, "party(" + v + ", 1, 100, 0)", Due.BEYOND, x -> x.party(v, 1, 100, 0));
      }
      for (int v : new int[] {-2, 0, 2, Integer.MIN_VALUE, Integer.MAX_VALUE}) {
        refusedBehind(ahead, "party(0, " + v + ", 100, 0)", Due.BEYOND, x -> x.party(0, v, 100, 0));
      }
      for (int v : new int[] {99, 50, 0, -1, -100, 151, 199, 251, 5051, 5099, 5100, 5101,
          Integer.MIN_VALUE, Integer.MAX_VALUE}) {
        refusedBehind(ahead, "party(0, 1, " + v + ", 0)", Due.BEYOND, x -> x.party(0, 1, v, 0));
      }
      for (int v : outside(0, 99)) {
        refusedBehind(ahead, "party(0, 1, 100, " + v + ")", Due.BEYOND, x -> x.party(0, 1, 100, v));
      }
    }
    refused("a fifth PARTY", Due.FULL, x -> x.party(0, 1, 100, 0));
    takenBehind(room, "party(0, 1, 100, 0)", 0, x -> x.party(0, 1, 100, 0));
    takenBehind(room, "party(39, -1, 5050, 99)", 0, x -> x.party(39, -1, 5050, 99));
    takenBehind(room, "party(0, 1, 150, 0)", 0, x -> x.party(0, 1, 150, 0));
    takenBehind(room, "party(0, 1, 5000, 0)", 0, x -> x.party(0, 1, 5000, 0));
    for (int v : outside(0, 3)) {
      refused("partyIs(" + v + ", 0)", Due.BEYOND, x -> x.partyIs(v, 0));
      refused("rest(" + v + ", false)", Due.BEYOND, x -> x.rest(v, false));
      refused("turn(" + v + ")", Due.BEYOND, x -> x.turn(v));
    }
    for (int v : outside(0, 8)) {
      refused("partyIs(0, " + v + ")", Due.BEYOND, x -> x.partyIs(0, v));
    }
    taken("partyIs(LOST, 8)", 2, x -> x.partyIs(LOST, 8));
    refused("rest(LOST, true)", Due.STATE, x -> x.rest(LOST, true));
    refused("rest(LOST, false)", Due.STATE, x -> x.rest(LOST, false));
    refused("turn(LOST)", Due.STATE, x -> x.turn(LOST));
    taken("rest that is so", 0, x -> x.rest(TEN_MEN, true));
    taken("rest that is new", 1, x -> x.rest(TEN_MEN, false));
    taken("turn(ELSEWHERE)", 1, x -> x.turn(ELSEWHERE));
  }

  /** Promise 13. */
  private static void give() {
    for (int v : outside(0, 3)) {
      refused("give(" + v + ", 0, 1)", Due.BEYOND, x -> x.give(v, 0, 1));
    }
    for (int v : outside(0, 2)) {
      refused("give(TEN_MEN, " + v + ", 1)", Due.BEYOND, x -> x.give(TEN_MEN, v, 1));
    }
    for (int what = 0; what < 3; what++) {
      int of = what;
      for (int v : outside(1, what == 2 ? 99 : 9999)) {
        refused("give(TEN_MEN, " + of + ", " + v + ")", Due.BEYOND, x -> x.give(TEN_MEN, of, v));
        refused("give(LOST, " + of + ", " + v + "): BEYOND ahead of STATE", Due.BEYOND,
            x -> x.give(LOST, of, v));
      }
      refused("give(LOST, " + of + ", 1)", Due.STATE, x -> x.give(LOST, of, 1));
      int most = what == 2 ? 99 : 9999;
      int has = ready().partyIs(TEN_MEN, what == 0 ? 5 : what == 1 ? 6 : 4);
      refused("give above " + most, Due.FULL, x -> x.give(TEN_MEN, of, most - has + 1));
      refused("give " + most + " above it", Due.FULL, x -> x.give(TEN_MEN, of, most));
      taken("give up to " + most, most, x -> x.give(TEN_MEN, of, most - has));
      taken("give one more", has + 1, x -> x.give(TEN_MEN, of, 1));
    }
    refused("give(LOST, 2, 99): STATE ahead of FULL", Due.STATE, x -> x.give(LOST, 2, 99));
  }

  /** Promise 16. */
  private static void hand() {
    for (int v : outside(0, 3)) {
      refused("hand(" + v + ", MANY_MEN, 1)", Due.BEYOND, x -> x.hand(v, MANY_MEN, 1));
      refused("hand(TEN_MEN, " + v + ", 1)", Due.BEYOND, x -> x.hand(TEN_MEN, v, 1));
    }
    for (int v : outside(1, 50)) {
      refused("hand(TEN_MEN, MANY_MEN, " + v + ")", Due.BEYOND, x -> x.hand(TEN_MEN, MANY_MEN, v));
      refused("hand(LOST, ELSEWHERE, " + v + "): BEYOND ahead of STATE", Due.BEYOND,
          x -> x.hand(LOST, ELSEWHERE, v));
    }
    refused("hand of one to itself", Due.BEYOND, x -> x.hand(TEN_MEN, TEN_MEN, 1));
    refused("hand of one LOST to itself", Due.BEYOND, x -> x.hand(LOST, LOST, 1));
    refused("hand from one LOST", Due.STATE, x -> x.hand(LOST, TEN_MEN, 1));
    refused("hand to one LOST", Due.STATE, x -> x.hand(TEN_MEN, LOST, 1));
    refused("hand to another MILE", Due.STATE, x -> x.hand(TEN_MEN, ELSEWHERE, 1));
    refused("hand from another MILE", Due.STATE, x -> x.hand(ELSEWHERE, TEN_MEN, 1));
    refused("hand of all MEN: STATE ahead of FULL", Due.STATE, x -> x.hand(TEN_MEN, MANY_MEN, 10));
    refused("hand of 50", Due.STATE, x -> x.hand(TEN_MEN, MANY_MEN, 50));
    refused("hand of 45, all of them", Due.STATE, x -> x.hand(MANY_MEN, TEN_MEN, 45));
    refused("hand to 51", Due.FULL, x -> x.hand(TEN_MEN, MANY_MEN, 6));
    refused("hand of 44 to 54", Due.FULL, x -> x.hand(MANY_MEN, TEN_MEN, 44));
    taken("hand to 50", 50, x -> x.hand(TEN_MEN, MANY_MEN, 5));
    Act two = x -> x.restore() + x.party(5, 1, 1000, 0) + x.party(5, 1, 100, 0);
    takenBehind(two, "hand of all but one", 10, x -> x.hand(0, 1, 9));
  }

  /** Promises 17 and 18. */
  private static void reads() {
    for (int v : outside(1, 200)) {
      refused("reach(" + v + ")", Due.BEYOND, x -> x.reach(v));
    }
    taken("reach(200)", 1, x -> x.reach(200));
    taken("reach(1)", 1, x -> x.reach(1));
    for (int v : outside(0, LAST_WORK)) {
      refused("reads(" + v + ", FIRST)", Due.BEYOND, x -> x.reads(v, FIRST));
      refused("reads(FIRST, " + v + ")", Due.BEYOND, x -> x.reads(FIRST, v));
      refused("reads(POLE, " + v + "): BEYOND ahead of KIND", Due.BEYOND, x -> x.reads(POLE, v));
    }
    refused("reads(FIRST, FIRST)", Due.BEYOND, x -> x.reads(FIRST, FIRST));
    refused("reads(POLE, POLE): BEYOND ahead of KIND", Due.BEYOND, x -> x.reads(POLE, POLE));
    for (int work : new int[] {POLE, DEPOT, WELL, PLAIN, POLE_DOWN}) {
      refused("reads(FIRST, " + work + ")", Due.KIND, x -> x.reads(FIRST, work));
      refused("reads(" + work + ", FIRST)", Due.KIND, x -> x.reads(work, FIRST));
    }
    refusedBehind(x -> x.work(2, 10, 1), "reads of IRON", Due.KIND, x -> x.reads(FIRST, LAST_WORK + 1));
    taken("reads(FIRST, SECOND)", 1, x -> x.reads(FIRST, SECOND));
    taken("reads(FIRST, LONELY)", 0, x -> x.reads(FIRST, LONELY));
  }

  /** Promise 19. */
  private static void hands() {
    for (int v : outside(0, LAST_WORK)) {
      refused("hands(" + v + ", FIRST, 0)", Due.BEYOND, x -> x.hands(v, FIRST, 0));
      refused("hands(FIRST, " + v + ", 0)", Due.BEYOND, x -> x.hands(FIRST, v, 0));
      refused("hands(POLE, " + v + ", 0): BEYOND ahead of KIND", Due.BEYOND, x -> x.hands(POLE, v, 0));
    }
    refused("hands(FIRST, FIRST, 0)", Due.BEYOND, x -> x.hands(FIRST, FIRST, 0));
    refused("hands(POLE, POLE, 0): BEYOND ahead of KIND", Due.BEYOND, x -> x.hands(POLE, POLE, 0));
    for (int i : below(-1)) {
      refused("hands(FIRST, THIRD, " + i + ")", Due.BEYOND, x -> x.hands(FIRST, THIRD, i));
      refused("hands(FIRST, POLE, " + i + "): BEYOND ahead of KIND", Due.BEYOND,
          x -> x.hands(FIRST, POLE, i));
      refused("hands(FIRST, LONELY, " + i + "): BEYOND ahead of NONE", Due.BEYOND,
          x -> x.hands(FIRST, LONELY, i));
    }
    refused("hands(FIRST, POLE, 99): KIND ahead of NONE", Due.KIND, x -> x.hands(FIRST, POLE, 99));
    refused("hands(POLE, FIRST, 99): KIND ahead of NONE", Due.KIND, x -> x.hands(POLE, FIRST, 99));
    refused("hands(FIRST, LONELY, -1): no way", Due.NONE, x -> x.hands(FIRST, LONELY, -1));
    refused("hands(FIRST, LONELY, 0): no way", Due.NONE, x -> x.hands(FIRST, LONELY, 0));
    refused("hands(LONELY, FIRST, 0): no way", Due.NONE, x -> x.hands(LONELY, FIRST, 0));
    refused("hands(FIRST, THIRD, 3): no such one", Due.NONE, x -> x.hands(FIRST, THIRD, 3));
    refused("hands(FIRST, THIRD, most): no such one", Due.NONE,
        x -> x.hands(FIRST, THIRD, Integer.MAX_VALUE));
    taken("hands(FIRST, THIRD, -1)", 3, x -> x.hands(FIRST, THIRD, -1));
    taken("hands(FIRST, THIRD, 0)", FIRST, x -> x.hands(FIRST, THIRD, 0));
    taken("hands(FIRST, THIRD, 2)", THIRD, x -> x.hands(FIRST, THIRD, 2));
  }

  /** Promise 20. */
  private static void slip() {
    for (int v : outside(0, 3)) {
      refused("slip(" + v + ", FIRST, THIRD, 0)", Due.BEYOND, x -> x.slip(v, FIRST, THIRD, 0));
    }
    for (int v : outside(0, LAST_WORK)) {
      refused("slip(COPIES, " + v + ", THIRD, 0)", Due.BEYOND, x -> x.slip(COPIES, v, THIRD, 0));
      refused("slip(COPIES, FIRST, " + v + ", 0)", Due.BEYOND, x -> x.slip(COPIES, FIRST, v, 0));
      refused("slip(MISSING, POLE, " + v + ", 0)", Due.BEYOND, x -> x.slip(MISSING, POLE, v, 0));
    }
    refused("slip(COPIES, FIRST, FIRST, 0)", Due.BEYOND, x -> x.slip(COPIES, FIRST, FIRST, 0));
    refused("slip(MISSING, POLE, POLE, 0)", Due.BEYOND, x -> x.slip(MISSING, POLE, POLE, 0));
    for (int i : below(-1)) {
      refused("slip(COPIES, FIRST, THIRD, " + i + ")", Due.BEYOND, x -> x.slip(COPIES, FIRST, THIRD, i));
      refused("slip(MISSING, POLE, LONELY, " + i + ")", Due.BEYOND,
          x -> x.slip(MISSING, POLE, LONELY, i));
    }
    refused("slip(COPIES, POLE, THIRD, 0)", Due.KIND, x -> x.slip(COPIES, POLE, THIRD, 0));
    refused("slip(COPIES, FIRST, POLE, 0)", Due.KIND, x -> x.slip(COPIES, FIRST, POLE, 0));
    refused("slip(MISSING, FIRST, POLE, 0): KIND ahead of NONE", Due.KIND,
        x -> x.slip(MISSING, FIRST, POLE, 0));
    refused("slip(MISSING, FIRST, THIRD, 0)", Due.NONE, x -> x.slip(MISSING, FIRST, THIRD, 0));
    refused("slip(MISSING, FIRST, THIRD, -1)", Due.NONE, x -> x.slip(MISSING, FIRST, THIRD, -1));
    refused("slip(COPIES, FIRST, LONELY, 0): no way", Due.NONE, x -> x.slip(COPIES, FIRST, LONELY, 0));
    refused("slip(COPIES, FIRST, LONELY, -1): no way", Due.NONE, x -> x.slip(COPIES, FIRST, LONELY, -1));
    refused("slip(COPIES, FIRST, THIRD, 1): no such one", Due.NONE, x -> x.slip(COPIES, FIRST, THIRD, 1));
    refused("slip(COPIES, FIRST, THIRD, most): no such one", Due.NONE,
        x -> x.slip(COPIES, FIRST, THIRD, Integer.MAX_VALUE));
    refused("slip(COPIES, FIRST, SECOND, 0): a number too many", Due.STATE,
        x -> x.slip(COPIES, FIRST, SECOND, 0));
    refused("slip(COPIES, FIRST, SECOND, -1): a number too many", Due.STATE,
        x -> x.slip(COPIES, FIRST, SECOND, -1));
    refusedBehind(x -> x.sheet(COPIES, 8, 2), "slip(COPIES, FIRST, THIRD, -1): a number too few", Due.STATE,
        x -> x.slip(COPIES, FIRST, THIRD, -1));
    refusedBehind(x -> x.sheet(COPIES, 8, 0), "slip(COPIES, FIRST, THIRD, -1) by an empty SHEET", Due.STATE,
        x -> x.slip(COPIES, FIRST, THIRD, -1));
    taken("slip(COPIES, FIRST, THIRD, -1)", 1, x -> x.slip(COPIES, FIRST, THIRD, -1));
    taken("slip(COPIES, FIRST, THIRD, 0)", 101, x -> x.slip(COPIES, FIRST, THIRD, 0));
  }

  /** Promise 21. */
  private static void broke() {
    for (int v : outside(0, 39)) {
      refused("broke(" + v + ", 1, 2, 12, 1, 9)", Due.BEYOND, x -> x.broke(v, 1, 2, 12, 1, 9));
      refused("broke(3, 1, 2, " + v + ", 1, 9)", Due.BEYOND, x -> x.broke(3, 1, 2, v, 1, 9));
      refused("broke(3, " + v + ", 2, 12, 1, 9)", Due.BEYOND, x -> x.broke(3, v, 2, 12, 1, 9));
      refused("broke(3, 1, " + v + ", 12, 1, 9)", Due.BEYOND, x -> x.broke(3, 1, v, 12, 1, 9));
      refused("broke(3, 1, 2, 12, " + v + ", 9)", Due.BEYOND, x -> x.broke(3, 1, 2, 12, v, 9));
      refused("broke(3, 1, 2, 12, 1, " + v + ")", Due.BEYOND, x -> x.broke(3, 1, 2, 12, 1, v));
      refused("broke(3, " + v + ", " + v + ", 12, 1, 9)", Due.BEYOND, x -> x.broke(3, v, v, 12, 1, 9));
      refused("broke(3, 1, 2, 12, " + v + ", " + v + ")", Due.BEYOND, x -> x.broke(3, 1, 2, 12, v, v));
    }
    refused("broke: a is b", Due.BEYOND, x -> x.broke(12, 0, 39, 12, 0, 39));
    refused("broke: a is above b", Due.BEYOND, x -> x.broke(13, 0, 39, 12, 0, 39));
    refused("broke: to is below from", Due.BEYOND, x -> x.broke(3, 6, 5, 12, 0, 39));
    refused("broke: high is below low", Due.BEYOND, x -> x.broke(3, 0, 39, 12, 6, 5));
    refused("broke: BEYOND ahead of NONE", Due.BEYOND, x -> x.broke(3, 39, 38, 12, 39, 39));
    refused("broke nowhere", Due.NONE, x -> x.broke(3, 4, 5, 12, 6, 9));
    refused("broke behind b", Due.NONE, x -> x.broke(3, 10, 39, 12, 0, 39));
    refused("broke ahead of a", Due.NONE, x -> x.broke(3, 0, 39, 12, 10, 39));
    taken("broke in one MILE", 707, x -> x.broke(3, 4, 4, 12, 5, 5));
    taken("broke in b", 1212, x -> x.broke(3, 9, 39, 12, 0, 39));
    taken("broke in a", 303, x -> x.broke(3, 0, 39, 12, 9, 39));
    taken("broke anywhere", 39, x -> x.broke(0, 0, 39, 39, 0, 39));
    taken("broke next to the end", 3839, x -> x.broke(38, 0, 39, 39, 0, 39));
  }

  /** Promise 22. THE TAPE holds 3 bytes here. */
  private static void tape() {
    Act nearlyFull = x -> x.feed(0, 8) + x.feed(0, 8) + x.feed(0, 8) + x.feed(0, 8) + x.feed(0, 8);
    for (int v : outside(1, 8)) {
      refused("feed(1, " + v + ")", Due.BEYOND, x -> x.feed(1, v));
      refusedBehind(nearlyFull, "feed(1, " + v + ") without room", Due.BEYOND, x -> x.feed(1, v));
    }
    refusedBehind(nearlyFull, "feed up to 51", Due.FULL, x -> x.feed(1, 8));
    takenBehind(nearlyFull, "feed up to 50", 50, x -> x.feed(1, 7));
    refusedBehind(x -> nearlyFull.on(x) + x.feed(1, 7), "feed above 50", Due.FULL, x -> x.feed(1, 1));
    taken("feed(1, 1)", 4, x -> x.feed(1, 1));
    taken("feed(1, 8)", 11, x -> x.feed(1, 8));
  }

  /** Promises 23 to 26. */
  private static void rates() {
    Act full = x -> {
      int made = 0;
      for (int i = 1; i < 12; i++) {
        made = x.rate(1, 0);
        x.feed('l', 1);
      }
      return made;
    };
    for (int v : outside(0, 2)) {
      refused("rate(" + v + ", 0)", Due.BEYOND, x -> x.rate(v, 0));
      refusedBehind(full, "rate(" + v + ", 0) without room", Due.BEYOND, x -> x.rate(v, 0));
      refused("force(" + v + ", 0)", Due.BEYOND, x -> x.force(v, 0));
      refused("price(" + v + ", 1, 1, 1)", Due.BEYOND, x -> x.price(v, 1, 1, 1));
    }
    for (int v : outside(0, 2000)) {
      refused("rate(1, " + v + ")", Due.BEYOND, x -> x.rate(1, v));
      refusedBehind(full, "rate(1, " + v + ") without room", Due.BEYOND, x -> x.rate(1, v));
      refused("force(0, " + v + ")", Due.BEYOND, x -> x.force(0, v));
      refused("owed(" + v + ")", Due.BEYOND, x -> x.owed(v));
    }
    refusedBehind(full, "a 13th RATE", Due.FULL, x -> x.rate(1, 0));
    refused("force of a USE without a RATE", Due.NONE, x -> x.force(1, 2000));
    refusedBehind(x -> x.rate(1, 7), "force ahead of the DAY", Due.NONE, x -> x.force(1, 6));
    takenBehind(x -> x.rate(1, 7), "force on the DAY", 1, x -> x.force(1, 7));
    taken("rate(1, 0)", 1, x -> x.rate(1, 0));
    taken("rate(1, 2000)", 1, x -> x.rate(1, 2000));
    taken("a FAULT is no finding", -10, x -> x.rate(2, 0));
    taken("force(0, 0)", 0, x -> x.force(0, 0));
    taken("force(0, 2000)", 0, x -> x.force(0, 2000));
    taken("owed(0)", 70, x -> x.owed(0));
    taken("owed(2000)", 0, x -> x.owed(2000));
    taken("a PRICE as low as a finding", Due.BEYOND, x -> x.price(0, Due.BEYOND, 0, 0));
  }

  /** Promise 27. */
  private static void load() {
    for (int v : outside(0, 3)) {
      refused("load(" + v + ", THINGS, 0)", Due.BEYOND, x -> x.load(v, THINGS, 0));
      refused("load(TEN_MEN, " + v + ", 0)", Due.BEYOND, x -> x.load(TEN_MEN, v, 0));
      refused("load(" + v + ", MISSING, 0): BEYOND ahead of NONE", Due.BEYOND, x -> x.load(v, MISSING, 0));
    }
    for (int i : below(-2)) {
      refused("load(TEN_MEN, THINGS, " + i + ")", Due.BEYOND, x -> x.load(TEN_MEN, THINGS, i));
      refused("load(TEN_MEN, MISSING, " + i + ")", Due.BEYOND, x -> x.load(TEN_MEN, MISSING, i));
      refused("load(TEN_MEN, RAINS, " + i + ")", Due.BEYOND, x -> x.load(TEN_MEN, RAINS, i));
    }
    refused("load(TEN_MEN, MISSING, 0)", Due.NONE, x -> x.load(TEN_MEN, MISSING, 0));
    refused("load(TEN_MEN, MISSING, 99): NONE ahead of STATE", Due.NONE, x -> x.load(TEN_MEN, MISSING, 99));
    for (int n : new int[] {0, 1, 2, 4, 5, 7, 23, 25, 26, 27, 36}) {
      Act ahead = x -> {
        Due.fill(x, THINGS, 16, new int[n]);
        for (int i = 0; i < n; i++) {
          x.put(THINGS, i, 1);
        }
        return n;
      };
      refusedBehind(ahead, "load by " + n + " numbers", Due.KIND, x -> x.load(TEN_MEN, THINGS, 0));
      refusedBehind(ahead, "load by " + n + " numbers, of no thing", Due.KIND,
          x -> x.load(TEN_MEN, THINGS, 99));
    }
    int[] least = {1, 0, 1};
    int[] most = {40, 999, 3};
    for (int i = 0; i < 6; i++) {
      int at = i;
      for (int v : new int[] {least[i % 3] - 1, most[i % 3] + 1, -32768, 32767}) {
        refusedBehind(x -> x.put(THINGS, at, v), "load with a " + v + " at " + i, Due.KIND,
            x -> x.load(TEN_MEN, THINGS, -1));
      }
      for (int v : new int[] {least[i % 3], most[i % 3]}) {
        takenBehind(x -> x.put(THINGS, at, v), "load with a " + v + " at " + i, 1,
            x -> x.load(TEN_MEN, THINGS, -2) >= 0 ? 1 : 0);
      }
    }
    refused("load(TEN_MEN, THINGS, 2): no thing", Due.STATE, x -> x.load(TEN_MEN, THINGS, 2));
    refused("load(TEN_MEN, THINGS, most): no thing", Due.STATE,
        x -> x.load(TEN_MEN, THINGS, Integer.MAX_VALUE));
    taken("load(TEN_MEN, THINGS, 1)", 2, x -> x.load(TEN_MEN, THINGS, 1));
    taken("load(TEN_MEN, THINGS, -1)", 5, x -> x.load(TEN_MEN, THINGS, -1));
    taken("load(TEN_MEN, THINGS, -2)", 4, x -> x.load(TEN_MEN, THINGS, -2));
    taken("load of one LOST", 0, x -> x.load(LOST, THINGS, 0));
  }

  /** Promise 28. */
  private static void meeting() {
    for (int v : outside(0, 3)) {
      refused("meeting(" + v + ", ELSEWHERE, RAINS, 0)", Due.BEYOND, x -> x.meeting(v, ELSEWHERE, RAINS, 0));
      refused("meeting(TEN_MEN, " + v + ", RAINS, 0)", Due.BEYOND, x -> x.meeting(TEN_MEN, v, RAINS, 0));
      refused("meeting(TEN_MEN, ELSEWHERE, " + v + ", 0)", Due.BEYOND,
          x -> x.meeting(TEN_MEN, ELSEWHERE, v, 0));
      refused("meeting(LOST, " + v + ", MISSING, 0)", Due.BEYOND, x -> x.meeting(LOST, v, MISSING, 0));
    }
    for (int v : outside(0, 1)) {
      refused("meeting(TEN_MEN, ELSEWHERE, RAINS, " + v + ")", Due.BEYOND,
          x -> x.meeting(TEN_MEN, ELSEWHERE, RAINS, v));
      refused("meeting(LOST, LOST, MISSING, " + v + ")", Due.BEYOND, x -> x.meeting(LOST, LOST, MISSING, v));
    }
    unmet("meeting", (x, a, b, sheet) -> x.meeting(a, b, sheet, 0), 7);
  }

  private interface Meets {
    int on(DesertWire x, int a, int b, int sheet);
  }

  /** What meeting() and judge() refuse alike. */
  private static void unmet(String name, Meets meets, int want) {
    refused(name + " by no SHEET: NONE ahead of STATE", Due.NONE, x -> meets.on(x, LOST, LOST, MISSING));
    refused(name + " by no SHEET", Due.NONE, x -> meets.on(x, TEN_MEN, ELSEWHERE, MISSING));
    for (int n : new int[] {0, 1, 11, 13, 23, 25, 35}) {
      Act ahead = x -> x.sheet(RAINS, 8, n);
      refusedBehind(ahead, name + " by " + n + " numbers", Due.KIND,
          x -> meets.on(x, TEN_MEN, ELSEWHERE, RAINS));
      refusedBehind(ahead, name + " by " + n + " numbers: KIND ahead of STATE", Due.KIND,
          x -> meets.on(x, LOST, TEN_MEN, RAINS));
    }
    for (int n : new int[] {12, 24, 36}) {
      takenBehind(x -> x.sheet(RAINS, 8, n), name + " by " + n + " numbers", want,
          x -> meets.on(x, TEN_MEN, ELSEWHERE, RAINS));
      for (int v : new int[] {-1, 10, -128, 127}) {
        Act ahead = x -> x.sheet(RAINS, 8, n) + x.put(RAINS, n - 1, v);
        refusedBehind(ahead, name + " with a RAIN of " + v, Due.KIND,
            x -> meets.on(x, TEN_MEN, ELSEWHERE, RAINS));
      }
      takenBehind(x -> x.sheet(RAINS, 8, n) + x.put(RAINS, n - 1, 9), name + " with a RAIN of 9", want,
          x -> meets.on(x, TEN_MEN, ELSEWHERE, RAINS));
    }
    refused(name + " of the first one LOST", Due.STATE, x -> meets.on(x, LOST, ELSEWHERE, RAINS));
    refusedBehind(x -> x.give(TEN_MEN, 0, 999) + x.give(TEN_MEN, 1, 999) + x.days(200),
        name + " of the second one LOST", Due.STATE, x -> meets.on(x, TEN_MEN, ELSEWHERE, RAINS));
    refusedBehind(x -> x.turn(TEN_MEN), name + " of WAYS -1 and -1", Due.STATE,
        x -> meets.on(x, TEN_MEN, ELSEWHERE, RAINS));
    refusedBehind(x -> x.turn(ELSEWHERE), name + " of WAYS 1 and 1", Due.STATE,
        x -> meets.on(x, TEN_MEN, ELSEWHERE, RAINS));
    refused(name + " of WAYS -1 and 1", Due.STATE, x -> meets.on(x, ELSEWHERE, TEN_MEN, RAINS));
    refused(name + " in one MILE", Due.STATE, x -> meets.on(x, TEN_MEN, MANY_MEN, RAINS));
    refused(name + " of one with itself", Due.STATE, x -> meets.on(x, TEN_MEN, TEN_MEN, RAINS));
    refusedBehind(x -> x.turn(TEN_MEN) + x.turn(ELSEWHERE), name + " in a lesser MILE", Due.STATE,
        x -> meets.on(x, ELSEWHERE, TEN_MEN, RAINS));
  }

  /** Promise 29. The PARTIES stand in MILES 5 and 9. */
  private static void judge() {
    for (int v : outside(0, 3)) {
      refused("judge(" + v + ", ELSEWHERE, RAINS, 6, 99)", Due.BEYOND,
          x -> x.judge(v, ELSEWHERE, RAINS, 6, 99));
      refused("judge(TEN_MEN, " + v + ", RAINS, 6, 99)", Due.BEYOND, x -> x.judge(TEN_MEN, v, RAINS, 6, 99));
      refused("judge(TEN_MEN, ELSEWHERE, " + v + ", 6, 99)", Due.BEYOND,
          x -> x.judge(TEN_MEN, ELSEWHERE, v, 6, 99));
    }
    for (int v : outside(0, 9999)) {
      refused("judge(TEN_MEN, ELSEWHERE, RAINS, 6, " + v + ")", Due.BEYOND,
          x -> x.judge(TEN_MEN, ELSEWHERE, RAINS, 6, v));
      refused("judge(LOST, LOST, MISSING, 6, " + v + "): BEYOND ahead of NONE", Due.BEYOND,
          x -> x.judge(LOST, LOST, MISSING, 6, v));
    }
    for (int v : outside(5, 8)) {
      refused("judge(TEN_MEN, ELSEWHERE, RAINS, " + v + ", 99)", Due.BEYOND,
          x -> x.judge(TEN_MEN, ELSEWHERE, RAINS, v, 99));
      refused("judge(TEN_MEN, ELSEWHERE, MISSING, " + v + ", 99): NONE ahead of BEYOND", Due.NONE,
          x -> x.judge(TEN_MEN, ELSEWHERE, MISSING, v, 99));
      refused("judge(TEN_MEN, ELSEWHERE, THINGS, " + v + ", 99): KIND ahead of BEYOND", Due.KIND,
          x -> x.judge(TEN_MEN, ELSEWHERE, THINGS, v, 99));
      refused("judge(ELSEWHERE, TEN_MEN, RAINS, " + v + ", 99): STATE ahead of BEYOND", Due.STATE,
          x -> x.judge(ELSEWHERE, TEN_MEN, RAINS, v, 99));
    }
    unmet("judge", (x, a, b, sheet) -> x.judge(a, b, sheet, 6, 9999), 8);
    taken("judge of a's MILE", 11, x -> x.judge(TEN_MEN, ELSEWHERE, RAINS, 5, 9999));
    taken("judge of the MILE ahead of b's", 7, x -> x.judge(TEN_MEN, ELSEWHERE, RAINS, 8, 9999));
    taken("judge of just as many days", 8, x -> x.judge(TEN_MEN, ELSEWHERE, RAINS, 6, 8));
    taken("judge of a day less", -1, x -> x.judge(TEN_MEN, ELSEWHERE, RAINS, 6, 7));
    taken("judge of no days", -1, x -> x.judge(TEN_MEN, ELSEWHERE, RAINS, 6, 0));
  }

  private static int toDay(DesertWire x, int day) {
    int now = x.count(5);
    while (now < day) {
      now = x.days(Math.min(200, day - now));
    }
    return now;
  }

  /** Promises 30 and 31. */
  private static void days() {
    for (int v : outside(1, 200)) {
      refused("days(" + v + ")", Due.BEYOND, x -> x.days(v));
    }
    taken("days(1)", 2, x -> x.days(1));
    taken("days(200)", 201, x -> x.days(200));
    refusedBehind(x -> toDay(x, 2000), "days(1) on the last DAY", Due.BEYOND, x -> x.days(1));
    refusedBehind(x -> toDay(x, 1801), "days(200) on DAY 1801", Due.BEYOND, x -> x.days(200));
    takenBehind(x -> toDay(x, 1800), "days(200) on DAY 1800", 2000, x -> x.days(200));
    takenBehind(x -> toDay(x, 1999), "days(1) on DAY 1999", 2000, x -> x.days(1));
    for (int v : outside(0, 200)) {
      refused("ahead(" + v + ", 9, 0)", Due.BEYOND, x -> x.ahead(v, 9, 0));
    }
    refusedBehind(x -> toDay(x, 2000), "ahead(1, 9, 0) on the last DAY", Due.BEYOND, x -> x.ahead(1, 9, 0));
    refusedBehind(x -> toDay(x, 1801), "ahead(200, 9, 0) on DAY 1801", Due.BEYOND, x -> x.ahead(200, 9, 0));
    takenBehind(x -> toDay(x, 2000), "ahead(0, 9, 0) on the last DAY", 4, x -> x.ahead(0, 9, 0));
    takenBehind(x -> toDay(x, 1800), "ahead(200, 10, 0) on DAY 1800", 10, x -> x.ahead(200, 10, 0));
    for (int v : outside(0, 10)) {
      refused("ahead(1, " + v + ", 0)", Due.BEYOND, x -> x.ahead(1, v, 0));
    }
    for (int v : outside(0, 3)) {
      for (int what = 0; what <= 8; what++) {
        int of = what;
        refused("ahead(1, " + of + ", " + v + ")", Due.BEYOND, x -> x.ahead(1, of, v));
      }
      taken("ahead(1, 9, " + v + ")", 5, x -> x.ahead(1, 9, v));
      taken("ahead(1, 10, " + v + ")", 10, x -> x.ahead(1, 10, v));
    }
    taken("ahead(200, 8, 3)", 2, x -> x.ahead(200, 8, 3));
  }

  /** Promise 32. */
  private static void joined() {
    for (int v : outside(0, 39)) {
      refused("joined(" + v + ", 12)", Due.BEYOND, x -> x.joined(v, 12));
      refused("joined(10, " + v + ")", Due.BEYOND, x -> x.joined(10, v));
    }
    refused("joined(11, 10)", Due.BEYOND, x -> x.joined(11, 10));
    refused("joined(9, 12)", Due.NONE, x -> x.joined(9, 12));
    refused("joined(0, 39)", Due.NONE, x -> x.joined(0, 39));
    taken("joined(10, 12)", 1, x -> x.joined(10, 12));
    taken("joined(30, 30)", 1, x -> x.joined(30, 30));
  }

  /** Promises 33 and 34. */
  private static void voices() {
    for (int v : outside(0, LAST_WORK)) {
      refused("voice(" + v + ", 0, 1)", Due.BEYOND, x -> x.voice(v, 0, 1));
    }
    for (int v : outside(0, 3)) {
      refused("voice(FIRST, " + v + ", 1)", Due.BEYOND, x -> x.voice(FIRST, v, 1));
    }
    taken("a VOICE as low as a finding", Due.NONE, x -> x.voice(POLE, 0, Due.NONE));
    for (int v : outside(0, 17)) {
      refused("trace(" + v + ")", Due.NONE, x -> x.trace(v));
    }
    taken("trace(0)", 41, x -> x.trace(0));
    taken("trace(17)", 10, x -> x.trace(17));
  }

  /** Promises 35 and 36. */
  private static void sheets() {
    for (int v : outside(0, 3)) {
      refused("sheet(" + v + ", 8, 1)", Due.BEYOND, x -> x.sheet(v, 8, 1));
      refused("sheet(" + v + ", 8, -1): BEYOND ahead of STATE", Due.BEYOND, x -> x.sheet(v, 8, -1));
      refused("sheet(" + v + ", 0, 1)", Due.BEYOND, x -> x.sheet(v, 0, 1));
      refused("put(" + v + ", 0, 1)", Due.BEYOND, x -> x.put(v, 0, 1));
    }
    for (int v : new int[] {-8, -1, 1, 7, 9, 15, 17, 24, 31, 33, 64, Integer.MIN_VALUE, Integer.MAX_VALUE}) {
      refused("sheet(COPIES, " + v + ", 3)", Due.BEYOND, x -> x.sheet(COPIES, v, 3));
      refused("sheet(COPIES, " + v + ", -1): BEYOND ahead of STATE", Due.BEYOND,
          x -> x.sheet(COPIES, v, -1));
    }
    for (int bits = 8; bits <= 32; bits *= 2) {
      int of = bits;
      refused("sheet(COPIES, " + of + ", -1)", Due.STATE, x -> x.sheet(COPIES, of, -1));
      refused("sheet(COPIES, " + of + ", least)", Due.STATE, x -> x.sheet(COPIES, of, Integer.MIN_VALUE));
      refused("sheet(COPIES, " + of + ", 37)", Due.BEYOND, x -> x.sheet(COPIES, of, 37));
      refused("sheet(COPIES, " + of + ", most)", Due.BEYOND, x -> x.sheet(COPIES, of, Integer.MAX_VALUE));
      taken("sheet(COPIES, " + of + ", 0)", 1, x -> x.sheet(COPIES, of, 0));
      taken("sheet(COPIES, " + of + ", 36)", 1, x -> x.sheet(COPIES, of, 36));
    }
    for (int v : outside(0, 36)) {
      taken("sheet(COPIES, 0, " + v + ")", 1, x -> x.sheet(COPIES, 0, v));
    }
    for (int v : outside(0, 2)) {
      refused("put(COPIES, " + v + ", 1)", Due.BEYOND, x -> x.put(COPIES, v, 1));
      refused("put(MISSING, " + v + ", 1): NONE ahead of BEYOND", Due.NONE, x -> x.put(MISSING, v, 1));
    }
    refused("put(MISSING, 0, 1)", Due.NONE, x -> x.put(MISSING, 0, 1));
    takenBehind(x -> x.sheet(MISSING, 16, 36), "put(MISSING, 35, 1)", 1, x -> x.put(MISSING, 35, 1));
    refusedBehind(x -> x.sheet(COPIES, 16, 0), "put on an empty SHEET", Due.BEYOND, x -> x.put(COPIES, 0, 1));
    taken("put(COPIES, 2, most)", 1, x -> x.put(COPIES, 2, Integer.MAX_VALUE));
  }

  /** Promise 37. RAINS has 12 numbers of 8 bits, COPIES 3 of 8 bits, THINGS 6 of 16 bits. */
  private static void move() {
    for (int v : outside(0, 3)) {
      refused("move(" + v + ", 0, COPIES, 0, 1)", Due.BEYOND, x -> x.move(v, 0, COPIES, 0, 1));
      refused("move(RAINS, 0, " + v + ", 0, 1)", Due.BEYOND, x -> x.move(RAINS, 0, v, 0, 1));
      refused("move(MISSING, 0, " + v + ", 0, 1): BEYOND ahead of NONE", Due.BEYOND,
          x -> x.move(MISSING, 0, v, 0, 1));
    }
    refused("move from a missing one", Due.NONE, x -> x.move(MISSING, 0, COPIES, 0, 1));
    refused("move to a missing one", Due.NONE, x -> x.move(RAINS, 0, MISSING, 0, 1));
    refused("move from a missing one to itself", Due.NONE, x -> x.move(MISSING, 0, MISSING, 0, 0));
    refused("move of unlike bits", Due.KIND, x -> x.move(RAINS, 0, THINGS, 0, 1));
    refused("move of unlike bits of none", Due.KIND, x -> x.move(THINGS, 0, RAINS, 0, 0));
    for (int v : outside(0, 12)) {
      refused("move(RAINS, " + v + ", COPIES, 0, 0)", Due.BEYOND, x -> x.move(RAINS, v, COPIES, 0, 0));
      refused("move(RAINS, " + v + ", COPIES, 0, 1)", Due.BEYOND, x -> x.move(RAINS, v, COPIES, 0, 1));
      refused("move(MISSING, " + v + ", COPIES, 0, 0): NONE ahead of BEYOND", Due.NONE,
          x -> x.move(MISSING, v, COPIES, 0, 0));
      refused("move(RAINS, " + v + ", THINGS, 0, 0): KIND ahead of BEYOND", Due.KIND,
          x -> x.move(RAINS, v, THINGS, 0, 0));
    }
    for (int v : outside(0, 3)) {
      refused("move(RAINS, 0, COPIES, " + v + ", 1)", Due.BEYOND, x -> x.move(RAINS, 0, COPIES, v, 1));
      refused("move(RAINS, 0, COPIES, 0, " + v + ")", Due.BEYOND, x -> x.move(RAINS, 0, COPIES, 0, v));
    }
    refused("move from a place too far by one", Due.BEYOND, x -> x.move(RAINS, 10, COPIES, 0, 3));
    refused("move to a place too far by one", Due.BEYOND, x -> x.move(RAINS, 0, COPIES, 1, 3));
    refused("move of one from the end", Due.BEYOND, x -> x.move(RAINS, 12, COPIES, 0, 1));
    refused("move of one to the end", Due.BEYOND, x -> x.move(RAINS, 0, COPIES, 3, 1));
    refused("move of most", Due.BEYOND, x -> x.move(RAINS, 1, RAINS, 1, Integer.MAX_VALUE));
    taken("move up to both ends", 3, x -> x.move(RAINS, 9, COPIES, 0, 3));
    taken("move of all to itself", 12, x -> x.move(RAINS, 0, RAINS, 0, 12));
    taken("move of none from the end to the end", 0, x -> x.move(RAINS, 12, COPIES, 3, 0));
  }

  /** Promises 38 to 41. */
  private static void images() {
    DesertWire x = new DesertWire();
    due.is("restore() of none", x.restore(), Due.NONE);
    due.is("found(2) then", x.found(2), 1);
    taken("restore()", 0, y -> y.restore());
    taken("image() again", 2, y -> y.image());
    Act full = y -> {
      int waits = 2;
      while (waits < 20) {
        waits = y.tell(waits);
      }
      return waits;
    };
    refusedBehind(full, "a number more than 20", Due.FULL, y -> y.tell(0));
    takenBehind(y -> y.tell(0), "tell(most)", 4, y -> y.tell(Integer.MAX_VALUE));
    takenBehind(full, "check() of 20", 1, y -> y.check());
  }

  /** Promises 42 and 43. */
  private static void counts() {
    for (int v : outside(0, 12)) {
      refused("count(" + v + ")", Due.BEYOND, x -> x.count(v));
    }
    for (int v : outside(1, 5)) {
      refused("found(" + v + ")", Due.BEYOND, x -> x.found(v));
    }
    taken("count(0)", 10, x -> x.count(0));
    taken("count(12)", 90, x -> x.count(12));
    taken("found(1)", 0, x -> x.found(1));
    taken("found(5)", 0, x -> x.found(5));
  }

  private static void asked(String call, Act act) {
    DesertWire x = ready();
    int was = findings(x);
    act.on(x);
    due.is(call + " is no finding", findings(x), was);
    DesertWire untouched = ready();
    findings(untouched);
    due.is(call + " changes nothing", seen(x).equals(seen(untouched)) ? 1 : 0, 1);
  }

  /** What only asks changes nothing. */
  private static void asking() {
    asked("as", x -> x.as(FIRST, 1));
    asked("workIs", x -> x.workIs(FIRST, 7));
    asked("mileIs", x -> x.mileIs(3, 3));
    asked("partyIs", x -> x.partyIs(TEN_MEN, 6));
    asked("reads", x -> x.reads(FIRST, SECOND));
    asked("hands", x -> x.hands(FIRST, THIRD, 1));
    asked("slip", x -> x.slip(COPIES, FIRST, THIRD, 0));
    asked("broke", x -> x.broke(3, 1, 9, 12, 0, 9));
    asked("force", x -> x.force(0, 5));
    asked("price", x -> x.price(0, 1, 2, 3));
    asked("owed", x -> x.owed(0));
    asked("load", x -> x.load(TEN_MEN, THINGS, -1));
    asked("meeting", x -> x.meeting(TEN_MEN, ELSEWHERE, RAINS, 1));
    asked("judge", x -> x.judge(TEN_MEN, ELSEWHERE, RAINS, 6, 99));
    for (int what = 0; what <= 10; what++) {
      int of = what;
      asked("ahead", x -> x.ahead(200, of, TEN_MEN));
    }
    asked("joined", x -> x.joined(10, 12));
    asked("trace", x -> x.trace(0));
    asked("count", x -> x.count(0));
    asked("found", x -> x.found(1));
  }
}
