/** Promises 11 to 16 and 30 to 32: parties, days, what is ahead. */
public final class PartyTest {
  private static final Due due = new Due("PartyTest");

  public static void main(String[] args) {
    party();
    partyIs();
    give();
    restAndTurn();
    hand();
    drink();
    thirst();
    food();
    hunger();
    digging();
    endOfTheLand();
    dugAtTheEnd();
    twoInOneMile();
    noRoom();
    days();
    ahead();
    farAhead();
    joined();
    due.end();
  }

  private static void party() {
    DesertWire x = new DesertWire();
    int[][] beyond = {
      {40, 1, 100, 0}, {-1, 1, 100, 0}, {0, 0, 100, 0}, {0, 2, 100, 0}, {0, -2, 100, 0},
      {0, 1, 99, 0}, {0, 1, 0, 0}, {0, 1, -100, 0}, {0, 1, 5100, 0}, {0, 1, 151, 0},
      {0, 1, 5051, 0}, {0, 1, 100, -1}, {0, 1, 100, 100},
    };
    for (int[] b : beyond) {
      due.is("party beyond", x.party(b[0], b[1], b[2], b[3]), Due.BEYOND);
    }
    due.is("count(2)", x.count(2), 0);
    due.is("party(39, -1, 5050, 99)", x.party(39, -1, 5050, 99), 0);
    due.is("party(0, 1, 100, 0)", x.party(0, 1, 100, 0), 1);
    due.is("party(1, 1, 100, 0)", x.party(1, 1, 100, 0), 2);
    due.is("party(2, 1, 100, 0)", x.party(2, 1, 100, 0), 3);
    due.is("a fifth", x.party(2, 1, 100, 0), Due.FULL);
    due.is("a fifth beyond", x.party(2, 0, 100, 0), Due.BEYOND);
    due.is("count(2) then", x.count(2), 4);
    due.is("count(11)", x.count(11), 53);
    x.days(1);
    due.is("count(3) with LOST", x.count(3), 3);
    due.is("a fifth with LOST", x.party(2, 1, 100, 0), Due.FULL);
  }

  private static void partyIs() {
    DesertWire x = new DesertWire();
    x.party(39, -1, 1234, 56);
    int[] is = {39, -1, 12, 34, 56, 0, 0, 0, 0};
    for (int what = 0; what < 9; what++) {
      due.is("partyIs(0, " + what + ")", x.partyIs(0, what), is[what]);
    }
    due.is("partyIs(0, 9)", x.partyIs(0, 9), Due.BEYOND);
    due.is("partyIs(0, -1)", x.partyIs(0, -1), Due.BEYOND);
    due.is("partyIs(1, 0)", x.partyIs(1, 0), Due.BEYOND);
    due.is("partyIs(-1, 0)", x.partyIs(-1, 0), Due.BEYOND);
  }

  private static void give() {
    DesertWire x = new DesertWire();
    x.party(0, 1, 100, 1);
    due.is("give(1, 0, 1)", x.give(1, 0, 1), Due.BEYOND);
    due.is("give(-1, 0, 1)", x.give(-1, 0, 1), Due.BEYOND);
    due.is("give(0, 3, 1)", x.give(0, 3, 1), Due.BEYOND);
    due.is("give(0, -1, 1)", x.give(0, -1, 1), Due.BEYOND);
    due.is("give(0, 0, 0)", x.give(0, 0, 0), Due.BEYOND);
    due.is("give(0, 0, 10000)", x.give(0, 0, 10000), Due.BEYOND);
    due.is("give(0, 1, 10000)", x.give(0, 1, 10000), Due.BEYOND);
    due.is("give(0, 2, 100)", x.give(0, 2, 100), Due.BEYOND);
    due.is("give(0, 2, 99)", x.give(0, 2, 99), Due.FULL);
    due.is("give(0, 2, 98)", x.give(0, 2, 98), 99);
    due.is("give(0, 2, 1)", x.give(0, 2, 1), Due.FULL);
    due.is("give(0, 0, 9999)", x.give(0, 0, 9999), 9999);
    due.is("give(0, 0, 1)", x.give(0, 0, 1), Due.FULL);
    due.is("give(0, 1, 9000)", x.give(0, 1, 9000), 9000);
    due.is("give(0, 1, 1000)", x.give(0, 1, 1000), Due.FULL);
    due.is("give(0, 1, 999)", x.give(0, 1, 999), 9999);
    due.is("FOOD", x.partyIs(0, 5), 9999);
    due.is("DRINK", x.partyIs(0, 6), 9999);
    due.is("POLES", x.partyIs(0, 4), 99);
    x.party(0, 1, 100, 0);
    x.days(1);
    due.is("give to one LOST", x.give(1, 0, 1), Due.STATE);
    due.is("give too much to one LOST", x.give(1, 2, 100), Due.BEYOND);
  }

  private static void restAndTurn() {
    DesertWire x = new DesertWire();
    x.party(5, 1, 100, 0);
    due.is("rest(0, false)", x.rest(0, false), 0);
    due.is("rest(0, true)", x.rest(0, true), 1);
    due.is("partyIs(0, 8)", x.partyIs(0, 8), 1);
    due.is("rest(0, true) again", x.rest(0, true), 0);
    due.is("rest(0, false) then", x.rest(0, false), 1);
    due.is("partyIs(0, 8) then", x.partyIs(0, 8), 0);
    due.is("rest(1, true)", x.rest(1, true), Due.BEYOND);
    due.is("rest(-1, true)", x.rest(-1, true), Due.BEYOND);
    due.is("turn(0)", x.turn(0), -1);
    due.is("turn(0) again", x.turn(0), 1);
    due.is("turn(1)", x.turn(1), Due.BEYOND);
    due.is("turn(-1)", x.turn(-1), Due.BEYOND);
    x.days(1);
    due.is("rest of one LOST", x.rest(0, true), Due.STATE);
    due.is("turn of one LOST", x.turn(0), Due.STATE);
    due.is("LOST", x.partyIs(0, 8), 2);
  }

  private static void hand() {
    DesertWire x = new DesertWire();
    x.party(5, 1, 1000, 0);
    x.party(5, -1, 4500, 0);
    x.party(6, 1, 5000, 0);
    due.is("hand(0, 0, 1)", x.hand(0, 0, 1), Due.BEYOND);
    due.is("hand(0, 3, 1)", x.hand(0, 3, 1), Due.BEYOND);
    due.is("hand(3, 0, 1)", x.hand(3, 0, 1), Due.BEYOND);
    due.is("hand(-1, 0, 1)", x.hand(-1, 0, 1), Due.BEYOND);
    due.is("hand(0, 1, 0)", x.hand(0, 1, 0), Due.BEYOND);
    due.is("hand(0, 1, 51)", x.hand(0, 1, 51), Due.BEYOND);
    due.is("hand(0, 1, 50)", x.hand(0, 1, 50), Due.STATE);
    due.is("hand(0, 2, 1)", x.hand(0, 2, 1), Due.STATE);
    due.is("hand(0, 1, 10)", x.hand(0, 1, 10), Due.STATE);
    due.is("hand(0, 1, 9)", x.hand(0, 1, 9), Due.FULL);
    due.is("hand(0, 1, 5)", x.hand(0, 1, 5), 50);
    due.is("hand(0, 1, 1)", x.hand(0, 1, 1), Due.FULL);
    due.is("hand(1, 0, 45)", x.hand(1, 0, 45), 50);
    due.is("MEN left", x.partyIs(1, 2), 5);
    due.is("count(11)", x.count(11), 105);
    x.party(6, 1, 100, 0);
    x.rest(2, true);
    x.days(1);
    due.is("to one LOST", x.hand(2, 3, 1), Due.STATE);
    due.is("from one LOST", x.hand(3, 2, 1), Due.STATE);
  }

  private static void drink() {
    DesertWire x = new DesertWire();
    x.party(5, 1, 203, 0);
    x.rest(0, true);
    x.give(0, 0, 9999);
    x.land(5, 0, 30);
    x.work(4, 5, 50);
    x.work(4, 5, 5);
    x.work(5, 5, 50);
    x.work(4, 6, 50);
    x.days(1);
    due.is("DRINK by SPRING and WELLS", x.partyIs(0, 6), 85 - 8);
    x.days(1);
    due.is("DRINK grows", x.partyIs(0, 6), 154);
    x.days(1);
    due.is("DRINK up to 50 each", x.partyIs(0, 6), 231);
    x.days(1);
    due.is("DRINK is 250 at most", x.partyIs(0, 6), 242);
    x.give(0, 1, 9000);
    x.days(1);
    due.is("never less by this", x.partyIs(0, 6), 9242 - 8);
    x.fell(0);
    x.fell(1);
    x.land(5, 0, 0);
    x.days(1);
    due.is("a WELL that is DOWN gives nothing", x.partyIs(0, 6), 9226);
  }

  private static void thirst() {
    DesertWire x = new DesertWire();
    x.party(5, 1, 302, 0);
    x.give(0, 0, 9999);
    x.give(0, 1, 8);
    x.days(1);
    due.is("just enough", x.partyIs(0, 6), 1);
    due.is("no BEAST dies", x.partyIs(0, 3), 2);
    x.days(1);
    due.is("DRINK is 0", x.partyIs(0, 6), 0);
    due.is("a BEAST dies", x.partyIs(0, 3), 1);
    x.days(1);
    due.is("another BEAST dies", x.partyIs(0, 3), 0);
    due.is("MEN stay", x.partyIs(0, 2), 3);
    due.is("FOOD by MEN", x.partyIs(0, 5), 9990);
    x.days(1);
    due.is("a MAN dies", x.partyIs(0, 2), 2);
    due.is("those left eat", x.partyIs(0, 5), 9988);
    x.days(2);
    due.is("MEN gone", x.partyIs(0, 2), 0);
    due.is("LOST", x.partyIs(0, 8), 2);
    due.is("FOOD stays", x.partyIs(0, 5), 9987);
    due.is("count(3)", x.count(3), 1);
    x.days(5);
    due.is("FOOD stays for good", x.partyIs(0, 5), 9987);
  }

  private static void food() {
    DesertWire x = new DesertWire();
    x.party(5, 1, 200, 0);
    x.party(5, 1, 1000, 0);
    x.rest(0, true);
    x.rest(1, true);
    x.give(0, 1, 9999);
    x.give(1, 1, 9999);
    x.work(5, 5, 1);
    x.work(5, 6, 1);
    x.work(5, 5, 1);
    x.work(5, 5, 1);
    x.lay(0, 30);
    x.lay(1, 500);
    x.lay(2, 100);
    x.lay(3, 7);
    x.fell(3);
    x.days(1);
    due.is("FOOD of the first", x.partyIs(0, 5), 38);
    due.is("FOOD of the second", x.partyIs(1, 5), 80);
    due.is("the first DEPOT", x.workIs(0, 6), 0);
    due.is("another MILE's", x.workIs(1, 6), 500);
    due.is("the second DEPOT", x.workIs(2, 6), 0);
    due.is("one that is DOWN", x.workIs(3, 6), 7);
    x.lay(2, 300);
    x.give(0, 0, 1000);
    x.days(1);
    due.is("no more than wanted", x.partyIs(0, 5), 1036);
    due.is("up to 20 each", x.partyIs(1, 5), 190);
    due.is("taken from the DEPOT", x.workIs(2, 6), 180);
    due.is("count(12)", x.count(12), 680);
  }

  private static void hunger() {
    DesertWire x = new DesertWire();
    x.party(5, 1, 302, 0);
    x.give(0, 1, 9999);
    x.give(0, 0, 3);
    x.days(1);
    due.is("just enough", x.partyIs(0, 5), 0);
    due.is("no MAN leaves", x.partyIs(0, 2), 3);
    x.days(1);
    due.is("a MAN leaves", x.partyIs(0, 2), 2);
    due.is("BEASTS stay", x.partyIs(0, 3), 2);
    x.days(2);
    due.is("LOST", x.partyIs(0, 8), 2);
    due.is("BEASTS of one LOST", x.partyIs(0, 3), 2);
    due.is("DRINK", x.partyIs(0, 6), 9999 - 7 - 7 - 6 - 5);
    DesertWire y = new DesertWire();
    y.party(5, 1, 200, 0);
    y.days(1);
    due.is("one dies, one leaves", y.partyIs(0, 2), 0);
    due.is("LOST at once", y.partyIs(0, 8), 2);
    due.is("it digs no more", y.partyIs(0, 7), 0);
  }

  private static DesertWire supplied(int mile, int way, int men, int poles) {
    DesertWire x = new DesertWire();
    x.party(mile, way, men, poles);
    x.give(0, 0, 9999);
    x.give(0, 1, 9999);
    return x;
  }

  private static void digging() {
    DesertWire x = supplied(10, 1, 300, 2);
    x.days(3);
    due.is("DUG 9", x.partyIs(0, 7), 9);
    due.is("no POLE so far", x.mileIs(10, 2), 0);
    x.days(1);
    due.is("a POLE", x.mileIs(10, 2), 1);
    due.is("its SIZE", x.workIs(0, 2), 1);
    due.is("its KIND", x.workIs(0, 0), 1);
    due.is("it counts from the next DAY", x.workIs(0, 3), 4);
    due.is("a POLE less", x.partyIs(0, 4), 1);
    due.is("DUG is 0", x.partyIs(0, 7), 0);
    due.is("it goes on tomorrow", x.partyIs(0, 0), 10);
    x.days(1);
    due.is("it goes on", x.partyIs(0, 0), 11);
    due.is("DUG there", x.partyIs(0, 7), 0);
    x.land(11, 1, 0);
    x.days(13);
    due.is("ROCK", x.partyIs(0, 7), 39);
    x.days(1);
    due.is("ROCK is dug", x.mileIs(11, 2), 1);
    x.days(21);
    due.is("without a POLE DUG grows", x.partyIs(0, 7), 60);
    due.is("and none stands", x.mileIs(12, 2), 0);
    x.give(0, 2, 1);
    x.days(1);
    due.is("with one it does", x.mileIs(12, 2), 1);
    x.rest(0, true);
    x.days(3);
    due.is("at REST it stays", x.partyIs(0, 0), 12);
    x.rest(0, false);
    x.turn(0);
    x.days(2);
    due.is("back", x.partyIs(0, 0), 10);
  }

  private static void endOfTheLand() {
    DesertWire x = supplied(39, 1, 1000, 1);
    x.days(1);
    due.is("the last MILE", x.mileIs(39, 2), 1);
    due.is("at WORK", x.partyIs(0, 8), 0);
    x.days(1);
    due.is("it stays", x.partyIs(0, 0), 39);
    due.is("it rests", x.partyIs(0, 8), 1);
    x.rest(0, false);
    x.days(1);
    due.is("it rests again", x.partyIs(0, 8), 1);
    DesertWire y = supplied(0, -1, 1000, 1);
    y.days(2);
    due.is("it stays in MILE 0", y.partyIs(0, 0), 0);
    due.is("it rests in MILE 0", y.partyIs(0, 8), 1);
    y.turn(0);
    y.rest(0, false);
    y.days(1);
    due.is("it goes the other WAY", y.partyIs(0, 0), 1);
  }

  /** What was DUG in a MILE that another one wires is 0 at the end of the land, too. */
  private static void dugAtTheEnd() {
    for (int way = -1; way <= 1; way += 2) {
      int end = way < 0 ? 0 : 39;
      DesertWire x = supplied(end, way, 400, 5);
      x.party(end, -way, 700, 5);
      x.give(1, 0, 9999);
      x.give(1, 1, 9999);
      x.days(1);
      due.is("DUG at the end", x.partyIs(0, 7), 4);
      x.rest(0, true);
      x.days(1);
      due.is("the other one wires it", x.mileIs(end, 2), 1);
      due.is("at REST it keeps its DUG", x.partyIs(0, 7), 4);
      x.rest(0, false);
      due.is("DUG at the end ahead", x.ahead(1, 7, 0), 0);
      x.days(1);
      due.is("DUG is 0 at the end", x.partyIs(0, 7), 0);
      due.is("it stays at the end", x.partyIs(0, 0), end);
      due.is("it rests at the end", x.partyIs(0, 8), 1);
      due.is("the other one goes on", x.partyIs(1, 0), end - way);
    }
  }

  private static void twoInOneMile() {
    DesertWire x = supplied(10, 1, 1000, 5);
    x.party(10, -1, 400, 5);
    x.give(1, 0, 999);
    x.give(1, 1, 999);
    x.days(1);
    due.is("one POLE stands", x.count(0), 1);
    due.is("the second one goes at once", x.partyIs(1, 0), 9);
    due.is("the first one stays", x.partyIs(0, 0), 10);
    DesertWire y = supplied(10, 1, 400, 5);
    y.party(10, -1, 1000, 5);
    y.give(1, 0, 999);
    y.give(1, 1, 999);
    y.days(1);
    due.is("the first one dug", y.partyIs(0, 7), 4);
    y.days(1);
    due.is("DUG is 0 behind a MILE", y.partyIs(0, 7), 0);
    due.is("it has gone on", y.partyIs(0, 0), 11);
  }

  private static void noRoom() {
    DesertWire x = supplied(10, 1, 1000, 5);
    for (int i = 0; i < 59; i++) {
      x.work(0, 0, 1);
    }
    x.days(1);
    due.is("the last WORK", x.count(0), 60);
    x.days(4);
    due.is("no room", x.count(0), 60);
    due.is("DUG goes on", x.partyIs(0, 7), 30);
    due.is("POLES stay", x.partyIs(0, 4), 4);
  }

  private static void days() {
    DesertWire x = new DesertWire();
    due.is("days(0)", x.days(0), Due.BEYOND);
    due.is("days(-1)", x.days(-1), Due.BEYOND);
    due.is("days(201)", x.days(201), Due.BEYOND);
    for (int i = 1; i <= 9; i++) {
      due.is("days(200)", x.days(200), 200 * i);
    }
    due.is("days(199)", x.days(199), 1999);
    due.is("days(2)", x.days(2), Due.BEYOND);
    due.is("days(1)", x.days(1), 2000);
    due.is("days(1) again", x.days(1), Due.BEYOND);
    due.is("count(5)", x.count(5), 2000);
    x.work(1, 0, 1);
    due.is("a WORK on the last DAY", x.workIs(0, 3), 2000);
    due.is("ahead(0, 10, 0)", x.ahead(0, 10, 0), 1);
    due.is("ahead(1, 10, 0)", x.ahead(1, 10, 0), Due.BEYOND);
    due.is("joined(0, 0)", x.joined(0, 0), 2000);
    due.is("joined(0, 1)", x.joined(0, 1), Due.NONE);
  }

  private static void ahead() {
    DesertWire x = supplied(10, 1, 1000, 5);
    x.party(20, -1, 500, 5);
    x.give(1, 0, 100);
    x.work(1, 0, 1);
    x.work(5, 20, 1);
    x.lay(1, 400);
    for (int n : new int[] {0, 1, 2, 3, 7, 30, 59, 60, 200}) {
      int[] told = new int[20];
      for (int i = 0; i < 2; i++) {
        for (int what = 0; what < 9; what++) {
          told[9 * i + what] = x.ahead(n, what, i);
        }
      }
      told[18] = x.ahead(n, 9, -7);
      told[19] = x.ahead(n, 10, 99);
      due.is("nothing changes", x.count(5) + x.count(0) + x.count(12), 402);
      x.image();
      if (n > 0) {
        x.days(n);
      }
      for (int i = 0; i < 2; i++) {
        for (int what = 0; what < 9; what++) {
          due.is("ahead(" + n + ", " + what + ", " + i + ")", told[9 * i + what], x.partyIs(i, what));
        }
      }
      due.is("ahead(" + n + ", 9)", told[18], x.count(9));
      due.is("ahead(" + n + ", 10)", told[19], x.count(0));
      x.restore();
    }
    due.is("ahead(-1, 9, 0)", x.ahead(-1, 9, 0), Due.BEYOND);
    due.is("ahead(201, 9, 0)", x.ahead(201, 9, 0), Due.BEYOND);
    due.is("ahead(1, 11, 0)", x.ahead(1, 11, 0), Due.BEYOND);
    due.is("ahead(1, -1, 0)", x.ahead(1, -1, 0), Due.BEYOND);
    due.is("ahead(1, 0, 2)", x.ahead(1, 0, 2), Due.BEYOND);
    due.is("ahead(1, 8, -1)", x.ahead(1, 8, -1), Due.BEYOND);
  }

  /** POLES of other MILES and DAYS, and DEPOTS, as they are ahead. */
  private static void farAhead() {
    DesertWire x = new DesertWire();
    x.land(1, 1, 0);
    x.days(50);
    x.work(1, 1, 1);
    x.work(1, 2, 1);
    x.work(4, 3, 9);
    x.work(5, 3, 1);
    x.lay(3, 300);
    x.party(3, 1, 200, 0);
    x.rest(0, true);
    x.days(10);
    due.is("both stand", x.ahead(49, 9, 0), 2);
    due.is("one stands", x.ahead(50, 9, 0), 1);
    due.is("one stands still", x.ahead(109, 9, 0), 1);
    due.is("none stands", x.ahead(110, 9, 0), 0);
    due.is("FOOD is taken ahead", x.ahead(20, 5, 0), 38);
    due.is("DRINK ahead", x.ahead(20, 6, 0), 98);
    due.is("FOOD lasts", x.ahead(140, 2, 0), 2);
    due.is("a MAN leaves ahead", x.ahead(141, 2, 0), 1);
    due.is("LOST ahead", x.ahead(142, 8, 0), 2);
    due.is("FOOD is there still", x.workIs(3, 6) + x.partyIs(0, 5), 280);
  }

  private static void joined() {
    DesertWire x = supplied(10, 1, 1000, 9);
    due.is("joined(10, 10)", x.joined(10, 10), 1);
    due.is("joined(10, 12)", x.joined(10, 12), 5);
    due.is("nothing changes", x.count(5), 0);
    due.is("joined(9, 12)", x.joined(9, 12), Due.NONE);
    due.is("joined(12, 10)", x.joined(12, 10), Due.BEYOND);
    due.is("joined(-1, 10)", x.joined(-1, 10), Due.BEYOND);
    due.is("joined(10, 40)", x.joined(10, 40), Due.BEYOND);
    x.work(1, 12, 1);
    due.is("joined with one POLE", x.joined(10, 12), 3);
    due.is("joined(12, 12)", x.joined(12, 12), 0);
    DesertWire y = supplied(0, 1, 100, 9);
    y.land(0, 2, 0);
    y.land(1, 2, 0);
    for (int month = 0; month < 12; month++) {
      y.rain(month, 9);
    }
    due.is("MILE 0 of CLAY", y.joined(0, 0), 110);
    due.is("MILES 0, 1 of CLAY", y.joined(0, 1), Due.NONE);
    y.days(20);
    due.is("MILE 1 of CLAY, with 20 DAYS less", y.joined(1, 1), Due.NONE);
    y.days(1);
    due.is("MILE 1 of CLAY, 200 DAYS behind", y.joined(1, 1), 221);
    due.is("MILE 0 then", y.joined(0, 0), 110);
  }
}
