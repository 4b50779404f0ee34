/**
 * The document's Terms sentence by sentence: each boundary that one of them names, from both sides.
 * What the calls refuse is asked by FindingsTest.
 */
public final class EdgesTest {
  private static final Due due = new Due("EdgesTest");

  public static void main(String[] args) {
    monthOfTheDay();
    anyNumberInOneMile();
    wiredByPolesAlone();
    eatenAsSoonAs();
    eatenByAnotherSoil();
    neverEaten();
    downForGood();
    wellsAndDepots();
    partiesAtFirst();
    effort();
    drinkUpToFiftyEach();
    drinkJustEnough();
    foodUpToTwentyEach();
    foodJustEnough();
    byNumbers();
    menDeadEatNothing();
    lostForGood();
    dugJustEnough();
    effortOfTheMonthThatEnds();
    withoutAPole();
    roomForOneWork();
    wiredAheadOfIt();
    eatenAheadOfWork();
    endsOfTheLand();
    leakNineAtMost();
    leakByThirtyDays();
    leakThatIsLeast();
    reachAtFirst();
    reachAtMost();
    milesBetween();
    fewestAheadOfLeast();
    slipsOfTwo();
    truths();
    forTheDayOrAhead();
    lateByADay();
    takenInANight();
    carriedByBeasts();
    begunInAMonth();
    worstOfRows();
    oneByOne();
    aheadOfNoDays();
    joinedOnTheLastDay();
    joinedAheadOfTheEnd();
    toldAndChecked();
    due.end();
  }

  private static void days(DesertWire x, int n) {
    for (int left = n; left > 0; left -= 200) {
      x.days(Math.min(200, left));
    }
  }

  /** A PARTY of an object of its own that lacks nothing. */
  private static DesertWire withParty(int mile, int way, int men, int poles) {
    DesertWire x = new DesertWire();
    join(x, mile, way, men, poles);
    return x;
  }

  private static void join(DesertWire x, int mile, int way, int men, int poles) {
    int party = x.party(mile, way, men, poles);
    x.give(party, 0, 9999);
    x.give(party, 1, 9999);
  }

  /** A PARTY at REST in MILE 5 with so much FOOD and DRINK. */
  private static DesertWire resting(int men, int food, int drink) {
    DesertWire x = new DesertWire();
    x.party(5, 1, men, 0);
    x.rest(0, true);
    if (food > 0) {
      x.give(0, 0, food);
    }
    if (drink > 0) {
      x.give(0, 1, drink);
    }
    return x;
  }

  // "its MONTH is DAY / 30 % 12"
  private static void monthOfTheDay() {
    DesertWire x = new DesertWire();
    x.land(0, 2, 0);
    for (int month = 0; month < 12; month++) {
      x.rain(month, month % 10);
    }
    for (int day = 0; day < 1980; day += 30) {
      int rain = day / 30 % 12 % 10;
      due.is("EFFORT on DAY " + day, x.mileIs(0, 4), 20 + 10 * rain);
      x.days(29);
      due.is("EFFORT on DAY " + (day + 29), x.mileIs(0, 4), 20 + 10 * rain);
      x.days(1);
    }
    x.days(20);
    due.is("EFFORT on DAY 2000", x.mileIs(0, 4), 20 + 10 * 6);
  }

  // "Each stands in a MILE (any number in one)", "at most 60"
  private static void anyNumberInOneMile() {
    DesertWire x = new DesertWire();
    for (int work = 0; work < 60; work++) {
      due.is("WORK " + work, x.work(3, 39, 50), work);
    }
    due.is("STATIONS", x.count(10), 60);
    due.is("MILES that are WIRED", x.count(9), 1);
    due.is("by two hands", x.hands(59, 0, -1), 2);
    for (int work = 0; work < 59; work++) {
      x.fell(work);
    }
    due.is("WIRED by the last one", x.mileIs(39, 2), 1);
    due.is("one STATION", x.count(10), 1);
    x.fell(59);
    due.is("WIRED by none", x.mileIs(39, 2), 0);
    due.is("all are DOWN", x.count(1), 60);
    due.is("they are there", x.count(0), 60);
  }

  // "A MILE is WIRED if a POLE that isn't DOWN stands there"; POLES are those under them, too.
  private static void wiredByPolesAlone() {
    int[] wires = {0, 1, 1, 1, 0, 0};
    for (int mile : new int[] {0, 1, 38, 39}) {
      for (int kind = 0; kind < 6; kind++) {
        DesertWire x = new DesertWire();
        x.work(kind, mile, 50);
        due.is("WIRED by KIND " + kind + " in MILE " + mile, x.mileIs(mile, 2), wires[kind]);
        due.is("count(9)", x.count(9), wires[kind]);
        due.is("ahead(0, 9, 0)", x.ahead(0, 9, 0), wires[kind]);
        due.is("a STATION", x.count(10), kind == 3 ? 1 : 0);
        due.is("the MILE next to it", x.mileIs(mile < 20 ? mile + 1 : mile - 1, 2), 0);
        x.fell(0);
        due.is("DOWN", x.mileIs(mile, 2), 0);
        due.is("count(9) DOWN", x.count(9), 0);
        due.is("no STATION", x.count(10), 0);
      }
    }
  }

  // "it is DOWN as soon as it stood 60 days in SAND, 120 days elsewhere"
  private static void eatenAsSoonAs() {
    int[] life = {60, 120, 120};
    for (int soil = 0; soil < 3; soil++) {
      for (int since : new int[] {0, 1, 45}) {
        DesertWire x = new DesertWire();
        x.land(8, soil, 0);
        days(x, since);
        x.work(1, 8, 1);
        String pole = "a POLE in SOIL " + soil + " since " + since;
        due.is(pole + " will be eaten", x.workIs(0, 5), since + life[soil]);
        due.is(pole + " ahead", x.ahead(life[soil] - 1, 9, 0), 1);
        due.is(pole + " one DAY later", x.ahead(life[soil], 9, 0), 0);
        days(x, life[soil] - 1);
        due.is(pole + " stands", x.workIs(0, 4), 0);
        due.is(pole + " will be eaten tomorrow", x.workIs(0, 5), since + life[soil]);
        x.days(1);
        due.is(pole + " is eaten", x.workIs(0, 4), 1);
        due.is(pole + " is DOWN by now", x.workIs(0, 5), -1);
        due.is(pole + " wires nothing", x.mileIs(8, 3), -1);
        due.is(pole + " takes no insulators", x.workIs(0, 7), 0);
        due.is(pole + " can't be brought down", x.fell(0), Due.STATE);
      }
    }
  }

  // SOIL may be told anew while a POLE stands: what counts is the SOIL when a DAY ends.
  private static void eatenByAnotherSoil() {
    DesertWire x = new DesertWire();
    x.land(1, 1, 0);
    x.work(1, 0, 1);
    x.work(1, 1, 1);
    x.days(59);
    x.land(0, 2, 0);
    x.land(1, 0, 0);
    due.is("from SAND to CLAY: when", x.workIs(0, 5), 120);
    due.is("from ROCK to SAND: when", x.workIs(1, 5), 60);
    x.days(1);
    due.is("from SAND to CLAY", x.workIs(0, 4), 0);
    due.is("from ROCK to SAND", x.workIs(1, 4), 1);
    x.land(0, 1, 0);
    due.is("from CLAY to ROCK: when", x.workIs(0, 5), 120);
    x.days(59);
    due.is("from CLAY to ROCK", x.workIs(0, 4), 0);
    x.days(1);
    due.is("on DAY 120", x.workIs(0, 4), 1);
  }

  // "A POLE that is no IRON is eaten"
  private static void neverEaten() {
    DesertWire x = new DesertWire();
    for (int kind = 0; kind < 6; kind++) {
      x.work(kind, 0, 1);
    }
    days(x, 2000);
    for (int kind = 0; kind < 6; kind++) {
      due.is("KIND " + kind + " on DAY 2000", x.workIs(kind, 4), kind == 1 ? 1 : 0);
      due.is("KIND " + kind + " when", x.workIs(kind, 5), -1);
    }
    due.is("count(1)", x.count(1), 1);
  }

  // "or it is DOWN (for good)"
  private static void downForGood() {
    DesertWire x = new DesertWire();
    for (int kind = 0; kind < 6; kind++) {
      x.work(kind, kind, 7);
      x.fell(kind);
    }
    days(x, 400);
    for (int kind = 0; kind < 6; kind++) {
      due.is("KIND " + kind + " is DOWN", x.workIs(kind, 4), 1);
      due.is("KIND " + kind + " again", x.fell(kind), Due.STATE);
      due.is("KIND " + kind + " keeps its SIZE", x.as(kind, kind), 7);
      due.is("KIND " + kind + " keeps its DAY", x.workIs(kind, 3), 0);
    }
  }

  // "A WELL gives its SIZE a day; a DEPOT gives nothing, but holds FOOD (0 at first)"
  private static void wellsAndDepots() {
    DesertWire x = new DesertWire();
    x.land(7, 0, 99);
    for (int size : new int[] {1, 50, 50}) {
      x.work(4, 7, size);
      x.work(5, 7, size);
      x.work(3, 7, size);
    }
    due.is("WELLS give", x.mileIs(7, 5), 101);
    due.is("WELLS of the MILE ahead", x.mileIs(6, 5), 0);
    due.is("WELLS of the MILE behind", x.mileIs(8, 5), 0);
    due.is("a DEPOT at first", x.workIs(1, 6), 0);
    due.is("all DEPOTS at first", x.count(12), 0);
    due.is("a WELL has no FOOD", x.workIs(0, 6), -1);
    x.fell(3);
    due.is("a WELL less", x.mileIs(7, 5), 51);
    x.fell(1);
    due.is("a DEPOT less", x.mileIs(7, 5), 51);
  }

  // "DUG (0 at first), at WORK or at REST (at work at first)"
  private static void partiesAtFirst() {
    DesertWire x = new DesertWire();
    x.party(39, 1, 5050, 99);
    x.party(0, -1, 100, 0);
    int[] most = {39, 1, 50, 50, 99, 0, 0, 0, 0};
    int[] least = {0, -1, 1, 0, 0, 0, 0, 0, 0};
    for (int what = 0; what <= 8; what++) {
      due.is("the most of " + what, x.partyIs(0, what), most[what]);
      due.is("the least of " + what, x.partyIs(1, what), least[what]);
    }
  }

  // "10 in SAND, 40 on ROCK, 20 and 10 times RAIN of the MONTH in CLAY"
  private static void effort() {
    DesertWire x = new DesertWire();
    x.land(1, 1, 0);
    x.land(2, 2, 0);
    for (int rain = 0; rain <= 9; rain++) {
      x.rain(0, rain);
      due.is("SAND", x.mileIs(0, 4), 10);
      due.is("ROCK", x.mileIs(1, 4), 40);
      due.is("CLAY in RAIN " + rain, x.mileIs(2, 4), 20 + 10 * rain);
    }
  }

  // "DRINK is more by SPRING of its MILE and what WELLS there give, up to 50 times MEN and BEASTS
  // together (never less by this)"
  private static void drinkUpToFiftyEach() {
    int[][] rows = {
      {40, 9, 48}, {40, 10, 49}, {40, 11, 49}, {49, 99, 49}, {50, 0, 49}, {50, 99, 49}, {51, 0, 50},
      {51, 99, 50}, {9999, 99, 9998}, {0, 50, 49}, {0, 51, 49}, {0, 1, 0},
    };
    for (int[] row : rows) {
      DesertWire x = resting(100, 99, row[0]);
      x.land(5, 0, row[1]);
      x.days(1);
      due.is("DRINK " + row[0] + ", SPRING " + row[1], x.partyIs(0, 6), row[2]);
      due.is("the MAN stays", x.partyIs(0, 2), 1);
      DesertWire y = resting(100, 99, row[0]);
      if (row[1] > 0) {
        y.work(4, 5, Math.min(50, row[1]));
        y.land(5, 0, row[1] - Math.min(50, row[1]));
      }
      y.days(1);
      due.is("DRINK " + row[0] + ", a WELL and SPRING " + row[1], y.partyIs(0, 6), row[2]);
    }
    DesertWire z = resting(201, 99, 100);
    z.land(5, 1, 49);
    z.days(1);
    due.is("DRINK of 3 up to 149", z.partyIs(0, 6), 145);
    z.days(1);
    due.is("DRINK of 3 up to 150", z.partyIs(0, 6), 146);
  }

  // "then less by MEN and 2 times BEASTS. With less than 0 it is 0, and a BEAST dies, or, without one, a MAN"
  private static void drinkJustEnough() {
    int[][] rows = {
      // men, DRINK: MEN, BEASTS, DRINK
      {302, 8, 3, 2, 1}, {302, 7, 3, 2, 0}, {302, 6, 3, 1, 0}, {302, 1, 3, 1, 0}, {302, 0, 3, 1, 0},
      {301, 5, 3, 1, 0}, {301, 4, 3, 0, 0}, {300, 4, 3, 0, 1}, {300, 3, 3, 0, 0}, {300, 2, 2, 0, 0},
      {300, 0, 2, 0, 0}, {100, 1, 1, 0, 0}, {100, 0, 0, 0, 0}, {101, 2, 1, 0, 0}, {5050, 150, 50, 50, 0},
      {5050, 149, 50, 49, 0},
    };
    for (int[] row : rows) {
      DesertWire x = resting(row[0], 9999, row[1]);
      x.days(1);
      String who = row[0] + " with DRINK " + row[1];
      due.is("MEN of " + who, x.partyIs(0, 2), row[2]);
      due.is("BEASTS of " + who, x.partyIs(0, 3), row[3]);
      due.is("DRINK of " + who, x.partyIs(0, 6), row[4]);
      due.is("LOST: " + who, x.partyIs(0, 8), row[2] == 0 ? 2 : 1);
    }
    DesertWire y = resting(302, 9999, 2);
    y.land(5, 0, 5);
    y.days(1);
    due.is("just enough by a SPRING", y.partyIs(0, 3), 2);
    DesertWire z = resting(302, 9999, 1);
    z.land(5, 0, 5);
    z.days(1);
    due.is("not enough by a SPRING", z.partyIs(0, 3), 1);
  }

  // "FOOD is more by what DEPOTS of its MILE hold, by numbers, as far as 20 times MEN are reached"
  private static void foodUpToTwentyEach() {
    int[][] rows = {
      // FOOD, DEPOT 0, DEPOT 1: FOOD, DEPOT 0, DEPOT 1 of 2 MEN
      {38, 1, 5, 38, 0, 4}, {38, 2, 5, 38, 0, 5}, {38, 3, 5, 38, 1, 5}, {39, 1, 5, 38, 0, 5},
      {40, 1, 5, 38, 1, 5}, {41, 1, 5, 39, 1, 5}, {9999, 9999, 5, 9997, 9999, 5}, {0, 39, 1, 38, 0, 0},
      {0, 39, 2, 38, 0, 1}, {0, 40, 2, 38, 0, 2}, {0, 41, 2, 38, 1, 2}, {37, 1, 1, 37, 0, 0},
      {1, 1, 0, 0, 0, 0},
    };
    for (int[] row : rows) {
      DesertWire x = resting(200, row[0], 99);
      x.work(5, 5, 1);
      x.work(5, 5, 1);
      x.work(5, 4, 1);
      x.work(5, 6, 1);
      for (int depot = 0; depot < 2; depot++) {
        if (row[depot + 1] > 0) {
          x.lay(depot, row[depot + 1]);
        }
      }
      x.lay(2, 7);
      x.lay(3, 8);
      x.days(1);
      String who = "FOOD " + row[0] + ", DEPOTS of " + row[1] + ", " + row[2];
      due.is(who, x.partyIs(0, 5), row[3]);
      due.is("the first DEPOT: " + who, x.workIs(0, 6), row[4]);
      due.is("the second DEPOT: " + who, x.workIs(1, 6), row[5]);
      due.is("other MILES' DEPOTS: " + who, x.workIs(2, 6) + 100 * x.workIs(3, 6), 807);
      due.is("MEN: " + who, x.partyIs(0, 2), 2);
    }
  }

  // "then less by MEN. With less than 0 it is 0, and a MAN leaves. Without MEN it is LOST."
  private static void foodJustEnough() {
    int[][] rows = {
      // men, FOOD: MEN, FOOD
      {302, 4, 3, 1}, {302, 3, 3, 0}, {302, 2, 2, 0}, {302, 1, 2, 0}, {302, 0, 2, 0}, {100, 1, 1, 0},
      {100, 0, 0, 0}, {5000, 50, 50, 0}, {5000, 49, 49, 0},
    };
    for (int[] row : rows) {
      DesertWire x = resting(row[0], row[1], 999);
      x.days(1);
      String who = row[0] + " with FOOD " + row[1];
      due.is("MEN of " + who, x.partyIs(0, 2), row[2]);
      due.is("FOOD of " + who, x.partyIs(0, 5), row[3]);
      due.is("BEASTS of " + who, x.partyIs(0, 3), row[0] % 100);
      due.is("LOST: " + who, x.partyIs(0, 8), row[2] == 0 ? 2 : 1);
      due.is("count(3): " + who, x.count(3), row[2] == 0 ? 1 : 0);
      due.is("count(11): " + who, x.count(11), row[2]);
    }
  }

  // "PARTIES by numbers": the first one takes what the second one lacks; SPRINGS give to each.
  private static void byNumbers() {
    DesertWire x = new DesertWire();
    x.land(5, 0, 20);
    x.work(5, 5, 1);
    x.lay(0, 50);
    for (int party = 0; party < 3; party++) {
      x.party(5, 1, 200, 0);
      x.rest(party, true);
    }
    x.days(1);
    int[] food = {38, 8, 0};
    int[] men = {2, 2, 1};
    for (int party = 0; party < 3; party++) {
      due.is("FOOD of PARTY " + party, x.partyIs(party, 5), food[party]);
      due.is("MEN of PARTY " + party, x.partyIs(party, 2), men[party]);
      due.is("DRINK of PARTY " + party, x.partyIs(party, 6), 18);
    }
    due.is("the DEPOT is empty", x.count(12), 0);
  }

  // A MAN who died of thirst neither eats nor is counted for what is taken from DEPOTS, nor digs.
  private static void menDeadEatNothing() {
    DesertWire x = resting(200, 20, 0);
    x.work(5, 5, 1);
    x.lay(0, 9);
    x.days(1);
    due.is("FOOD of the other one", x.partyIs(0, 5), 19);
    due.is("the DEPOT keeps it", x.workIs(0, 6), 9);
    DesertWire y = resting(100, 0, 0);
    y.work(5, 5, 1);
    y.lay(0, 9);
    y.days(1);
    due.is("no MAN: FOOD", y.partyIs(0, 5), 0);
    due.is("no MAN: LOST", y.partyIs(0, 8), 2);
    due.is("no MAN: the DEPOT", y.workIs(0, 6), 9);
    DesertWire z = new DesertWire();
    z.party(5, 1, 400, 1);
    z.days(1);
    due.is("one died, one left: MEN", z.partyIs(0, 2), 2);
    due.is("one died, one left: DUG", z.partyIs(0, 7), 2);
  }

  // "LOST (for good)"
  private static void lostForGood() {
    DesertWire x = new DesertWire();
    x.party(5, 1, 203, 9);
    x.give(0, 1, 999);
    x.days(1);
    due.is("DUG by one MAN", x.partyIs(0, 7), 1);
    x.days(1);
    int[] is = {5, 1, 0, 3, 9, 0, 999 - 8 - 7, 1, 2};
    for (int round = 0; round < 2; round++) {
      for (int what = 0; what <= 8; what++) {
        due.is("of one LOST: " + what, x.partyIs(0, what), is[what]);
      }
      x.land(5, 0, 99);
      x.work(1, 5, 1);
      x.work(5, 5, 1);
      x.lay(x.count(0) - 1, 50);
      x.days(200);
    }
    due.is("it takes nothing", x.count(12), 100);
  }

  // "DUG is more by MEN; with EFFORT or more ..: a POLE of SIZE 1 stands there from then on"
  private static void dugJustEnough() {
    int[][] rows = {
      // SOIL, RAIN, MEN: days
      {0, 9, 10, 1}, {0, 9, 11, 1}, {0, 9, 9, 2}, {0, 9, 5, 2}, {0, 0, 4, 3}, {1, 9, 40, 1}, {1, 0, 39, 2},
      {1, 0, 20, 2}, {1, 0, 19, 3}, {2, 0, 20, 1}, {2, 0, 19, 2}, {2, 3, 50, 1}, {2, 3, 49, 2},
      {2, 9, 50, 3}, {2, 8, 50, 2}, {2, 9, 1, 110},
    };
    for (int[] row : rows) {
      DesertWire x = withParty(5, 1, 100 * row[2], 2);
      x.land(5, row[0], 0);
      for (int month = 0; month < 12; month++) {
        x.rain(month, row[1]);
      }
      String who = row[2] + " MEN in SOIL " + row[0] + ", RAIN " + row[1];
      days(x, row[3] - 1);
      due.is("none so far: " + who, x.count(0), 0);
      due.is("DUG: " + who, x.partyIs(0, 7), (row[3] - 1) * row[2]);
      x.days(1);
      due.is("one POLE: " + who, x.count(0), 1);
      due.is("its KIND: " + who, x.workIs(0, 0), 1);
      due.is("its MILE: " + who, x.workIs(0, 1), 5);
      due.is("its SIZE: " + who, x.workIs(0, 2), 1);
      due.is("since when: " + who, x.workIs(0, 3), row[3]);
      due.is("it stands: " + who, x.mileIs(5, 2), 1);
      due.is("DUG is 0: " + who, x.partyIs(0, 7), 0);
      due.is("a POLE less: " + who, x.partyIs(0, 4), 1);
      due.is("still there: " + who, x.partyIs(0, 0), 5);
      x.days(1);
      due.is("a MILE on: " + who, x.partyIs(0, 0), 6);
      due.is("DUG is 0 there: " + who, x.partyIs(0, 7), 0);
    }
  }

  // EFFORT is that of the MONTH of the DAY that ends.
  private static void effortOfTheMonthThatEnds() {
    DesertWire x = new DesertWire();
    x.rain(0, 9);
    x.rain(1, 0);
    x.land(5, 2, 0);
    x.days(28);
    join(x, 5, 1, 1000, 1);
    x.days(2);
    due.is("DUG 20 when DAY 29 has ended", x.partyIs(0, 7), 20);
    due.is("not enough in MONTH 0", x.mileIs(5, 2), 0);
    x.days(1);
    due.is("enough in MONTH 1", x.mileIs(5, 2), 1);
    due.is("its days count from DAY 31", x.workIs(0, 3), 31);
  }

  // "if it has a POLE"
  private static void withoutAPole() {
    DesertWire x = withParty(5, 1, 1000, 1);
    x.days(2);
    due.is("the only POLE", x.partyIs(0, 4), 0);
    x.days(3);
    due.is("DUG above EFFORT", x.partyIs(0, 7), 30);
    due.is("no POLE", x.mileIs(6, 2), 0);
    x.give(0, 2, 1);
    x.days(1);
    due.is("with a POLE", x.mileIs(6, 2), 1);
    due.is("DUG is 0", x.partyIs(0, 7), 0);
  }

  // "and there is room for a WORK"
  private static void roomForOneWork() {
    DesertWire x = withParty(5, 1, 1000, 9);
    join(x, 9, 1, 1000, 9);
    for (int work = 0; work < 59; work++) {
      x.work(0, 0, 1);
    }
    x.fell(0);
    x.days(1);
    due.is("the last one", x.count(0), 60);
    due.is("by the first PARTY", x.workIs(59, 1), 5);
    due.is("the first one's POLES", x.partyIs(0, 4), 8);
    due.is("the second one's POLES", x.partyIs(1, 4), 9);
    due.is("the second one's DUG", x.partyIs(1, 7), 10);
    x.days(2);
    due.is("the first one has gone on, and digs", x.partyIs(0, 0) * 100 + x.partyIs(0, 7), 610);
    due.is("the second one digs", x.partyIs(1, 7), 30);
    due.is("no more of them", x.count(0), 60);
  }

  // "(for PARTIES behind it, too ..)", "Else (the MILE was WIRED ahead of it): it goes a MILE on"
  private static void wiredAheadOfIt() {
    DesertWire x = withParty(5, 1, 400, 9);
    join(x, 5, 1, 1000, 9);
    join(x, 5, -1, 400, 9);
    x.days(1);
    due.is("one ahead of it digs", x.partyIs(0, 0) * 100 + x.partyIs(0, 7), 504);
    due.is("it stays where it dug", x.partyIs(1, 0), 5);
    due.is("one behind it goes on at once", x.partyIs(2, 0) * 100 + x.partyIs(2, 7), 400);
    due.is("one POLE", x.count(0), 1);
    x.days(1);
    due.is("then it goes on", x.partyIs(0, 0) * 100 + x.partyIs(0, 7), 600);
    due.is("and the other one", x.partyIs(1, 0), 6);
    due.is("one ahead goes before it", x.partyIs(2, 0) * 100 + x.partyIs(2, 7), 404);
    DesertWire y = withParty(5, 1, 1000, 9);
    for (int mile = 5; mile < 9; mile++) {
      y.work(2, mile, 1);
    }
    for (int mile = 6; mile <= 9; mile++) {
      y.days(1);
      due.is("a MILE a DAY", y.partyIs(0, 0), mile);
    }
    y.days(1);
    due.is("it wires the next one", y.mileIs(9, 2), 1);
  }

  // "(1) POLES that are eaten" come ahead of "(3)".
  private static void eatenAheadOfWork() {
    DesertWire x = new DesertWire();
    x.work(1, 5, 1);
    x.days(58);
    join(x, 5, 1, 300, 1);
    x.rest(0, true);
    x.days(1);
    x.rest(0, false);
    x.days(1);
    due.is("eaten", x.workIs(0, 4), 1);
    due.is("it digs at once", x.partyIs(0, 0) * 100 + x.partyIs(0, 7), 503);
    DesertWire y = new DesertWire();
    y.work(1, 5, 1);
    y.days(58);
    join(y, 5, 1, 300, 1);
    y.days(1);
    due.is("a DAY ahead it goes on", y.partyIs(0, 0) * 100 + y.partyIs(0, 7), 600);
  }

  // "at the end of the land it stays, and rests"
  private static void endsOfTheLand() {
    for (int end : new int[] {0, 39}) {
      int way = end == 0 ? -1 : 1;
      DesertWire x = withParty(end - way, way, 1000, 2);
      x.days(2);
      due.is("at the end", x.partyIs(0, 0), end);
      due.is("at WORK", x.partyIs(0, 8), 0);
      x.days(1);
      due.is("its POLE", x.mileIs(end, 2), 1);
      due.is("at WORK still", x.partyIs(0, 8), 0);
      x.days(1);
      due.is("it stays", x.partyIs(0, 0), end);
      due.is("it rests", x.partyIs(0, 8), 1);
      due.is("DUG is 0", x.partyIs(0, 7), 0);
      due.is("rest that isn't new", x.rest(0, true), 0);
      x.turn(0);
      x.days(1);
      due.is("at REST it stays", x.partyIs(0, 0), end);
      x.rest(0, false);
      x.days(1);
      due.is("back", x.partyIs(0, 0), end - way);
    }
  }

  // "1 and RAIN of the MONTH .., 9 together at most; half of that (cut) for IRON"
  private static void leakNineAtMost() {
    DesertWire x = new DesertWire();
    x.work(1, 0, 1);
    x.work(2, 1, 50);
    x.work(3, 2, 9);
    for (int rain = 0; rain <= 9; rain++) {
      x.rain(0, rain);
      int leak = Math.min(9, 1 + rain);
      due.is("a POLE in RAIN " + rain, x.mileIs(0, 3), leak);
      due.is("IRON in RAIN " + rain, x.mileIs(1, 3), leak / 2);
      due.is("a STATION in RAIN " + rain, x.mileIs(2, 3), leak / 2);
    }
    DesertWire y = new DesertWire();
    y.land(0, 1, 0);
    y.work(1, 0, 1);
    y.work(2, 1, 1);
    for (int month = 0; month < 12; month++) {
      y.rain(month, 5);
    }
    y.days(89);
    due.is("8 on DAY 89", y.mileIs(0, 3), 8);
    y.days(1);
    due.is("9 on DAY 90", y.mileIs(0, 3), 9);
    due.is("half of 9", y.mileIs(1, 3), 4);
    y.days(29);
    due.is("9 on DAY 119", y.mileIs(0, 3), 9);
    days(y, 1000);
    due.is("half of 9 still", y.mileIs(1, 3), 4);
  }

  // "and 1 for each 30 days that it stood"
  private static void leakByThirtyDays() {
    DesertWire x = new DesertWire();
    x.land(0, 1, 0);
    for (int month = 0; month < 12; month++) {
      x.rain(month, 0);
    }
    x.days(10);
    x.work(1, 0, 1);
    x.work(2, 1, 1);
    for (int more = 0; more < 3; more++) {
      due.is("a POLE of " + 30 * more, x.mileIs(0, 3), 1 + more);
      due.is("IRON of " + 30 * more, x.mileIs(1, 3), (1 + more) / 2);
      x.days(29);
      due.is("a POLE of " + (30 * more + 29), x.mileIs(0, 3), 1 + more);
      x.days(1);
    }
    DesertWire y = withParty(5, 1, 1000, 1);
    y.days(30);
    due.is("by a PARTY, since DAY 1, on DAY 30", y.mileIs(5, 3), 3);
    y.days(1);
    due.is("by a PARTY, since DAY 1, on DAY 31", y.mileIs(5, 3), 4);
  }

  // "that of the POLE that isn't DOWN for which it is least"
  private static void leakThatIsLeast() {
    DesertWire x = new DesertWire();
    due.is("not WIRED", x.mileIs(5, 3), -1);
    x.work(4, 5, 50);
    due.is("a WELL leaks nothing", x.mileIs(5, 3), -1);
    x.work(1, 5, 1);
    due.is("a POLE", x.mileIs(5, 3), 3);
    x.work(2, 5, 1);
    due.is("IRON behind it", x.mileIs(5, 3), 1);
    x.work(1, 5, 1);
    due.is("a POLE behind IRON", x.mileIs(5, 3), 1);
    x.rain(0, 0);
    due.is("LEAK of 0", x.mileIs(5, 3), 0);
    x.fell(2);
    due.is("without IRON", x.mileIs(5, 3), 1);
    x.fell(1);
    x.fell(3);
    due.is("all DOWN", x.mileIs(5, 3), -1);
    x.work(3, 0, 1);
    x.work(1, 0, 1);
    due.is("a POLE behind a STATION of 0", x.mileIs(0, 3), 0);
    x.days(59);
    x.rain(1, 0);
    x.work(1, 0, 1);
    due.is("(1 + 1) / 2 of the STATION, 1 of the POLE", x.mileIs(0, 3), 1);
    x.rain(1, 2);
    due.is("(3 + 1) / 2 of the STATION, 3 of the POLE", x.mileIs(0, 3), 2);
  }

  /** STATIONS at both ends; POLES that leak 9 each and IRON that leaks 4 each between. */
  private static DesertWire between(int poles, int irons) {
    DesertWire x = new DesertWire();
    x.rain(0, 9);
    x.work(3, 0, 1);
    x.work(3, poles + irons + 1, 1);
    for (int mile = 1; mile <= poles + irons; mile++) {
      x.work(mile <= poles ? 1 : 2, mile, 1);
    }
    return x;
  }

  // "REACH is 1 .. 200 (40 at first)", "are REACH at most"
  private static void reachAtFirst() {
    due.is("LEAKS of 40", between(0, 10).reads(0, 1), 1);
    due.is("LEAKS of 41", between(1, 8).reads(0, 1), 0);
    due.is("LEAKS of 40, from the other end", between(4, 1).reads(1, 0), 1);
    due.is("LEAKS of 41, from the other end", between(1, 8).reads(1, 0), 0);
  }

  private static void reachAtMost() {
    DesertWire x = between(20, 5);
    x.reach(200);
    due.is("LEAKS of 200", x.reads(0, 1), 1);
    x.reach(199);
    due.is("REACH of 199", x.reads(0, 1), 0);
    DesertWire y = between(21, 3);
    y.reach(200);
    due.is("LEAKS of 201", y.reads(0, 1), 0);
    DesertWire z = between(0, 1);
    z.reach(1);
    due.is("a LEAK of 4, REACH 1", z.reads(0, 1), 0);
    z.rain(0, 2);
    due.is("a LEAK of 1, REACH 1", z.reads(0, 1), 1);
    z.rain(0, 3);
    due.is("a LEAK of 2, REACH 1", z.reads(0, 1), 0);
  }

  // "all MILES from the one to the other are WIRED", "(both ends not)", "two of one MILE"
  private static void milesBetween() {
    for (int gap = 1; gap <= 3; gap++) {
      DesertWire x = between(0, 3);
      due.is("no gap", x.reads(0, 1), 1);
      x.fell(1 + gap);
      due.is("a gap in MILE " + gap, x.reads(0, 1), 0);
      due.is("back, a gap in MILE " + gap, x.reads(1, 0), 0);
      due.is("no hands by a gap in MILE " + gap, x.hands(0, 1, -1), Due.NONE);
    }
    DesertWire y = new DesertWire();
    y.rain(0, 9);
    y.reach(1);
    y.work(3, 38, 1);
    y.work(3, 39, 1);
    y.work(3, 39, 1);
    due.is("next to one another", y.reads(0, 1), 1);
    due.is("in one MILE", y.reads(1, 2), 1);
    y.fell(2);
    due.is("in one MILE, one is DOWN", y.reads(1, 2), 0);
    due.is("next to one that is DOWN", y.reads(0, 2), 0);
    due.is("from one that is DOWN", y.reads(2, 0), 0);
    due.is("no hands from one that is DOWN", y.hands(2, 0, -1), Due.NONE);
    due.is("no hands to one that is DOWN", y.hands(0, 2, -1), Due.NONE);
    due.is("the others read", y.reads(1, 0), 1);
  }

  // "the fewest; of several the way whose STATIONS are the least, from the first on"
  private static void fewestAheadOfLeast() {
    DesertWire x = new DesertWire();
    x.rain(0, 3);
    x.reach(2);
    for (int mile : new int[] {0, 1, 3, 4, 2, 2, 0, 4}) {
      x.work(3, mile, 1);
    }
    due.is("fewer by greater numbers", x.hands(0, 3, -1), 3);
    due.is("the lesser one of MILE 2", x.hands(0, 3, 1), 4);
    due.is("from a greater one to a greater one", x.hands(7, 6, -1) * 10 + x.hands(7, 6, 1), 34);
    x.fell(4);
    due.is("the other one of MILE 2", x.hands(0, 3, 1), 5);
    x.fell(5);
    x.work(2, 2, 1);
    due.is("by MILES 1 and 3", x.hands(0, 3, -1), 4);
    due.is("by STATION 1", x.hands(0, 3, 1), 1);
    due.is("by STATION 2", x.hands(0, 3, 2), 2);
    due.is("back by STATION 2", x.hands(3, 0, 1), 2);
    due.is("both of one MILE", x.hands(0, 6, -1), 2);
  }

  // "a SLIP is between two that were kept, one behind the other, and are not alike"
  private static void slipsOfTwo() {
    DesertWire x = new DesertWire();
    x.work(3, 0, 1);
    x.work(3, 1, 1);
    int[][] rows = {
      {5, 5, 0}, {5, 6, 1}, {-1, 5, 0}, {5, -1, 0}, {-1, -1, 0}, {0, 0, 0}, {0, -2, 1}, {-2, -2, 0},
    };
    for (int[] row : rows) {
      Due.fill(x, 0, 32, row[0], row[1]);
      String copies = row[0] + ", " + row[1];
      due.is("SLIPS of " + copies, x.slip(0, 0, 1, -1), row[2]);
      due.is("the SLIP of " + copies, x.slip(0, 0, 1, 0), row[2] == 1 ? 101 : Due.NONE);
      due.is("no other SLIP of " + copies, x.slip(0, 1, 0, row[2]), Due.NONE);
    }
    Due.fill(x, 1, 8, 255, 127);
    due.is("255 in 8 bits is none kept", x.slip(1, 0, 1, -1), 0);
    Due.fill(x, 1, 16, 255, 127);
    due.is("255 in 16 bits is one kept", x.slip(1, 0, 1, 0), 101);
  }

  private static void text(String text, int n, int c, int m, int want) {
    DesertWire x = new DesertWire();
    Due.type(x, text);
    due.is("rate of " + text, x.rate(0, 0), 0);
    due.is(text + " for " + n + ", " + c + ", " + m, x.price(0, n, c, m), want);
  }

  // "| & < = > ! are 1 or 0, what is not 0 being true"
  private static void truths() {
    int[] some = {0, 1, -1, 2, Integer.MIN_VALUE, Integer.MAX_VALUE};
    for (int n : some) {
      text("!n", n, 0, 0, n == 0 ? 1 : 0);
      text("!!n", n, 0, 0, n == 0 ? 0 : 1);
      text("n", n, 0, 0, n);
      text("(n)", n, 0, 0, n);
      for (int c : some) {
        text("n&c", n, c, 0, n != 0 && c != 0 ? 1 : 0);
        text("n|c", n, c, 0, n != 0 || c != 0 ? 1 : 0);
        text("n<c", n, c, 0, n < c ? 1 : 0);
        text("n=c", n, c, 0, n == c ? 1 : 0);
        text("n>c", n, c, 0, n > c ? 1 : 0);
        text("n%c", n, c, 0, c == 0 ? 0 : (int) ((long) n % c));
        text("n+c*m", n, c, 2, n + c * 2);
        text("n-c-m", n, c, 2, n - c - 2);
        text("n&c|m", n, c, 0, n != 0 && c != 0 ? 1 : 0);
        text("m|n&c", n, c, 5, 1);
      }
    }
  }

  // "in force is that made last of its USE for the DAY or one ahead"
  private static void forTheDayOrAhead() {
    DesertWire x = new DesertWire();
    int[] froms = {50, 0, 2000, 50, 49};
    for (int from : froms) {
      Due.type(x, "" + (1000 + from));
      x.rate(0, from);
    }
    int[][] rows = {{0, 1}, {48, 1}, {49, 4}, {50, 4}, {51, 4}, {1999, 4}, {2000, 4}};
    for (int[] row : rows) {
      due.is("in force on DAY " + row[0], x.force(0, row[0]), row[1]);
    }
    due.is("PRICE on DAY 0", x.price(0, 3, 3, 3), 1000);
    Due.type(x, "7");
    x.rate(0, 1);
    due.is("one from tomorrow on", x.price(0, 3, 3, 3), 1000);
    x.days(1);
    due.is("it is in force today", x.price(0, 3, 3, 3), 7);
    due.is("another USE", x.price(1, 3, 3, 3), 210);
    due.is("another USE in force", x.force(1, 2000), Due.NONE);
  }

  // "l days late, d the DAY", "0 if it isn't late"
  private static void lateByADay() {
    DesertWire x = new DesertWire();
    x.days(100);
    due.is("due tomorrow", x.owed(101), 0);
    due.is("due today", x.owed(100), 0);
    due.is("due yesterday", x.owed(99), 70);
    due.is("due on DAY 0", x.owed(0), 7000);
    Due.type(x, "1000*l+d");
    x.rate(1, 100);
    due.is("due today, by a RATE", x.owed(100), 0);
    due.is("due tomorrow, by a RATE", x.owed(101), 0);
    due.is("due yesterday, by a RATE", x.owed(99), 1100);
    due.is("due on DAY 0, by a RATE", x.owed(0), 100100);
    Due.type(x, "9999");
    x.rate(1, 101);
    due.is("a RATE from tomorrow on", x.owed(99), 1100);
    due.is("PRICE of LATE less than 0", x.price(1, -3, 5, 0), -2995);
  }

  // "how many insulators are taken of it in a night (less than 0 is 0); without: s less g"
  private static void takenInANight() {
    DesertWire x = new DesertWire();
    for (int kind = 0; kind < 6; kind++) {
      x.work(kind, 0, 10 + kind);
    }
    for (int kind = 0; kind < 6; kind++) {
      boolean pole = kind >= 1 && kind <= 3;
      due.is("of KIND " + kind, x.workIs(kind, 7), pole ? 10 + kind : 0);
    }
    due.is("as much given", x.price(2, 1, 9, 9), 0);
    due.is("one less given", x.price(2, 1, 9, 8), 1);
    due.is("one more given", x.price(2, 1, 9, 10), 0);
    Due.type(x, "100*k+s-g-212");
    x.rate(2, 0);
    int[] want = {0, 0, 0, 101, 0, 0};
    for (int kind = 0; kind < 6; kind++) {
      due.is("by a RATE, of KIND " + kind, x.workIs(kind, 7), want[kind]);
    }
    due.is("by a RATE, 1", x.price(2, 2, 13, 0), 1);
    due.is("by a RATE, 0", x.price(2, 2, 12, 0), 0);
    due.is("by a RATE, -1", x.price(2, 2, 12, 1), 0);
    x.fell(3);
    due.is("of one that is DOWN", x.workIs(3, 7), 0);
  }

  // "BEASTS carry 12 each", "no heavier together than all carry"
  private static void carriedByBeasts() {
    for (int beasts : new int[] {0, 1, 3, 50}) {
      DesertWire x = new DesertWire();
      x.party(0, 1, 100 + beasts, 0);
      Due.fill(x, 0, 16, 12, 7, 3);
      due.is(beasts + " BEASTS, 12 each", x.load(0, 0, 0), Math.min(3, beasts));
      due.is(beasts + " BEASTS, the weight", x.load(0, 0, -2), 12 * Math.min(3, beasts));
      due.is(beasts + " BEASTS, the worth", x.load(0, 0, -1), 7 * Math.min(3, beasts));
      x.put(0, 0, 13);
      due.is(beasts + " BEASTS, 13 each", x.load(0, 0, 0), Math.min(3, 12 * beasts / 13));
      x.put(0, 0, 11);
      due.is(beasts + " BEASTS, 11 each", x.load(0, 0, 0), Math.min(3, 12 * beasts / 11));
    }
    DesertWire y = new DesertWire();
    y.party(0, 1, 150, 0);
    Due.fill(y, 0, 16, 40, 999, 3, 40, 999, 3, 40, 999, 3, 40, 999, 3, 40, 999, 3, 40, 999, 3,
        40, 999, 3, 40, 999, 3);
    int[] taken = {3, 3, 3, 3, 3, 0, 0, 0};
    for (int i = 0; i < 8; i++) {
      due.is("thing " + i + " of eight alike", y.load(0, 0, i), taken[i]);
    }
    due.is("the weight of 600", y.load(0, 0, -2), 600);
  }

  // "EFFORT of a MILE is that of the MONTH in which it is begun; both begin on the DAY"
  private static void begunInAMonth() {
    for (int day : new int[] {18, 19, 28, 29, 30}) {
      DesertWire x = new DesertWire();
      days(x, day);
      x.party(0, 1, 100, 0);
      x.party(2, -1, 5000, 0);
      x.land(1, 2, 0);
      x.sheet(0, 8, 12);
      x.put(0, 1, 9);
      // MILE 0 takes 10 days, the way on a day more: MILE 1 is begun 11 days behind the DAY.
      int effort = day + 11 >= 30 && day + 11 < 60 ? 110 : 20;
      due.is("begun on DAY " + (day + 11), x.judge(0, 1, 0, 1, 9999), 11 + effort);
    }
    DesertWire y = new DesertWire();
    y.party(0, 1, 5000, 0);
    y.party(39, -1, 5000, 0);
    y.sheet(0, 8, 12);
    due.is("a DAY each, a DAY to go on", y.judge(0, 1, 0, 38, 9999), 39 + 38);
    due.is("of 40 MILES the least of two", y.meeting(0, 1, 0, 0), 19);
    due.is("20 DAYS, 19 more to go on", y.meeting(0, 1, 0, 1), 39);
  }

  // "the x .. for which the worst of the rows is least; of several the least x"
  private static void worstOfRows() {
    DesertWire x = new DesertWire();
    x.party(0, 1, 1000, 0);
    x.party(3, -1, 1000, 0);
    x.land(1, 2, 0);
    x.sheet(0, 8, 36);
    due.is("by rows alike", x.meeting(0, 1, 0, 0), 1);
    due.is("days by rows alike", x.meeting(0, 1, 0, 1), 4);
    for (int row = 0; row < 3; row++) {
      x.sheet(0, 8, 36);
      x.put(0, 12 * row, 9);
      due.is("row " + row + " is the worst", x.judge(0, 1, 0, 1, 9999), 1 + 1 + 11);
      due.is("row " + row + " is the worst for b", x.judge(0, 1, 0, 0, 9999), 1 + 1 + 1 + 1 + 11);
      due.is("the least x by row " + row, x.meeting(0, 1, 0, 0), 1);
      x.put(0, 12 * row, 1);
      due.is("x by a lesser RAIN in row " + row, x.meeting(0, 1, 0, 0), 1);
      due.is("days by a lesser RAIN in row " + row, x.meeting(0, 1, 0, 1), 5);
    }
    DesertWire y = new DesertWire();
    y.party(0, 1, 1000, 0);
    y.party(4, -1, 1000, 0);
    y.sheet(0, 8, 12);
    due.is("of several the least", y.meeting(0, 1, 0, 0), 1);
    due.is("the other one", y.judge(0, 1, 0, 2, 9999), 5);
    due.is("the least one", y.judge(0, 1, 0, 1, 9999), 5);
  }

  // "n DAYS end, one by one"
  private static void oneByOne() {
    DesertWire[] both = new DesertWire[2];
    for (int i = 0; i < 2; i++) {
      DesertWire x = withParty(5, 1, 702, 9);
      x.land(6, 2, 3);
      x.land(8, 1, 60);
      x.rain(1, 7);
      x.work(5, 8, 1);
      x.lay(0, 999);
      both[i] = x;
    }
    due.is("at once", both[0].days(150), 150);
    for (int day = 1; day <= 150; day++) {
      due.is("one by one", both[1].days(1), day);
    }
    for (int what = 0; what <= 8; what++) {
      due.is("one by one " + what, both[1].partyIs(0, what), both[0].partyIs(0, what));
    }
    due.is("WORKS one by one", both[1].count(0), both[0].count(0));
    for (int work = 0; work < both[0].count(0); work++) {
      due.is("since one by one", both[1].workIs(work, 3), both[0].workIs(work, 3));
      due.is("DOWN one by one", both[1].workIs(work, 4), both[0].workIs(work, 4));
    }
    due.is("FOOD one by one", both[1].count(12), both[0].count(12));
  }

  // "what 0 to 8 as partyIs() of PARTY i", n of 0
  private static void aheadOfNoDays() {
    DesertWire x = withParty(7, -1, 1003, 4);
    x.work(1, 3, 1);
    for (int what = 0; what <= 8; what++) {
      due.is("ahead(0, " + what + ", 0)", x.ahead(0, what, 0), x.partyIs(0, what));
    }
    due.is("ahead(0, 9, -1)", x.ahead(0, 9, -1), 1);
    due.is("ahead(0, 10, -1)", x.ahead(0, 10, -1), 1);
    due.is("a POLE ahead", x.ahead(1, 4, 0), 3);
    due.is("MILES ahead", x.ahead(1, 9, 0), 2);
    due.is("WORKS ahead", x.ahead(1, 10, 0), 2);
    due.is("WORKS ahead, one eaten", x.ahead(200, 10, 0), x.count(0) + 4);
    due.is("nothing has changed", x.count(0), 1);
    due.is("no DAY has ended", x.count(5), 0);
  }

  // "from the DAY on to 200 behind it (2000 at most)"
  private static void joinedOnTheLastDay() {
    for (int day : new int[] {1990, 1991}) {
      DesertWire x = new DesertWire();
      days(x, day);
      join(x, 5, 1, 100, 1);
      due.is("joined within 10 DAYS of DAY " + day, x.joined(5, 5), day == 1990 ? 2000 : Due.NONE);
    }
    for (int rain : new int[] {7, 8}) {
      DesertWire x = withParty(5, 1, 100, 9);
      for (int month = 0; month < 12; month++) {
        x.rain(month, rain);
      }
      x.land(5, 2, 0);
      x.land(6, 2, 0);
      // MILES 5 and 6 take 90 DAYS each, or 100, and one to go on.
      int first = 20 + 10 * rain;
      due.is("joined in RAIN " + rain, x.joined(6, 6), 2 * first + 1 <= 200 ? 2 * first + 1 : Due.NONE);
    }
    DesertWire y = withParty(5, 1, 100, 9);
    y.land(5, 1, 0);
    y.land(6, 2, 0);
    for (int month = 0; month < 12; month++) {
      y.rain(month, 9);
    }
    due.is("one DAY of 151", y.joined(6, 6), 40 + 1 + 110);
  }

  // "on which, ahead of its end, all MILES .. are WIRED"
  private static void joinedAheadOfTheEnd() {
    DesertWire x = new DesertWire();
    x.work(1, 5, 1);
    x.days(59);
    due.is("on the last DAY of a POLE", x.joined(5, 5), 59);
    x.days(1);
    due.is("a DAY later", x.joined(5, 5), Due.NONE);
    DesertWire y = withParty(7, 1, 100, 1);
    y.land(7, 1, 0);
    y.work(1, 6, 1);
    due.is("both for a while", y.joined(6, 7), 40);
    due.is("three never", y.joined(5, 7), Due.NONE);
    y.days(41);
    due.is("both by now", y.joined(6, 7), 41);
    y.days(19);
    due.is("both no more", y.joined(6, 7), Due.NONE);
    DesertWire z = new DesertWire();
    z.work(1, 0, 1);
    z.work(1, 39, 1);
    due.is("MILE 0", z.joined(0, 0), 0);
    due.is("MILE 39", z.joined(39, 39), 0);
    due.is("MILES 0 and 1", z.joined(0, 1), Due.NONE);
    due.is("MILES 38 and 39", z.joined(38, 39), Due.NONE);
  }

  // "The numbers that wait (none do then) are LEAKS (-1: not WIRED) of MILES 0, 1, .."
  private static void toldAndChecked() {
    for (int wrong = 0; wrong < 20; wrong++) {
      DesertWire x = new DesertWire();
      for (int mile = 0; mile < 20; mile++) {
        if (mile % 2 == 0) {
          x.work(mile % 4 == 0 ? 1 : 2, mile, 1);
        }
        int leak = mile % 4 == 0 ? 3 : mile % 4 == 2 ? 1 : -1;
        due.is("how many wait", x.tell(mile == wrong ? leak + 1 : leak), mile + 1);
      }
      due.is("place " + wrong + " isn't so", x.check(), wrong + 1);
      due.is("none wait", x.count(8), 0);
      due.is("all of none are so", x.check(), 0);
      x.tell(wrong == 0 ? 2 : 3);
      due.is("one is" + (wrong == 0 ? "n't so" : " so"), x.check(), wrong == 0 ? 1 : 0);
    }
  }
}
