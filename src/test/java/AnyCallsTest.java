import java.util.Arrays;

/**
 * Runs of 512 calls with any arguments: nothing throws, the same calls give the same answers, a
 * finding is counted and changes nothing else.
 */
public final class AnyCallsTest {
  private static final Due due = new Due("AnyCallsTest");
  private static final int CALLS = 512;
  private static final int[] ODD = {
    Integer.MIN_VALUE, Integer.MAX_VALUE, -2, 100, 200, 1000, 10000, 65536, Integer.MAX_VALUE - 7,
  };
  private static final String SIGNS = "ncmldksg0123456789(()--!|&<=>+*%";

  private static long seed = 1;

  private static int any(int bound) {
    seed = seed * 6364136223846793005L + 1442695040888963407L;
    return (int) ((seed >>> 33) % bound);
  }

  /** Mostly from -1 to the bound, now and then something odd. */
  private static int near(int bound) {
    return any(25) == 0 ? ODD[any(ODD.length)] : any(12) == 0 ? any(bound + 2) - 1 : any(bound);
  }

  private static long signs() {
    long word = 0;
    for (int i = 0; i < 8; i++) {
      word = word << 8 | SIGNS.charAt(any(SIGNS.length()));
    }
    return word;
  }

  private static int call(DesertWire x, int which) {
    switch (which) {
      case 0: return x.rain(near(12), near(10));
      case 1: return x.land(near(40), near(3), near(100));
      case 2: return x.work(near(6), near(6), near(51));
      case 3: return x.as(near(20), near(6));
      case 4: return x.workIs(near(20), near(8));
      case 5: return x.fell(near(60));
      case 6: return x.lay(near(20), near(600));
      case 7: return x.mileIs(near(40), near(6));
      case 8: return x.soils(near(4), near(40));
      case 9: return x.party(near(8), near(2) * 2 - 1, near(3000), near(30));
      case 10: return x.partyIs(near(4), near(9));
      case 11: return x.give(near(4), near(3), near(99));
      case 12: return x.rest(near(4), any(4) == 0);
      case 13: return x.turn(near(4));
      case 14: return x.hand(near(4), near(4), near(20));
      case 15: return x.reach(near(60));
      case 16: return x.reads(near(20), near(20));
      case 17: return x.hands(near(20), near(20), near(4) - 1);
      case 18: return x.slip(near(4), near(20), near(20), near(4) - 1);
      case 19: return x.broke(near(20), near(9), near(30), 20 + near(20), near(9), near(30));
      case 20: return x.feed(any(3) == 0 ? signs() * any(9) : signs(), near(9));
      default: return callMore(x, which);
    }
  }

  private static int callMore(DesertWire x, int which) {
    switch (which) {
      case 21: return x.rate(near(3), near(100));
      case 22: return x.force(near(3), near(100));
      case 23: return x.price(near(3), near(100), near(100), near(100));
      case 24: return x.owed(near(100));
      case 25: return x.load(near(4), near(4), near(10) - 2);
      case 26: return x.meeting(near(4), near(4), near(4), near(2));
      case 27: return x.judge(near(4), near(4), near(4), near(12), near(9999));
      case 28: return x.days(near(12));
      case 29: return x.ahead(near(100), near(11), near(4));
      case 30: return x.joined(near(8), near(8));
      case 31: return x.voice(near(20), near(4), near(1000));
      case 32: return x.trace(near(20));
      case 33: return x.sheet(near(4), 8 * near(5), near(37));
      case 34: return x.put(near(4), near(12), near(6) - 1);
      case 35: return x.move(near(4), near(12), near(4), near(12), near(12));
      case 36: return x.image();
      case 37: return any(9) == 0 ? x.restore() : x.count(5);
      case 38: return x.tell(near(12) - 1);
      case 39: return x.check();
      case 40: return x.count(near(13));
      default: return x.found(near(6));
    }
  }

  private static int[] run(long of) {
    seed = of;
    DesertWire x = new DesertWire();
    int[] answers = new int[CALLS];
    for (int i = 0; i < CALLS; i++) {
      answers[i] = call(x, any(42));
    }
    return answers;
  }

  private static int findings(DesertWire x) {
    int sum = 0;
    for (int k = 1; k <= 5; k++) {
      sum += x.found(k);
    }
    return sum;
  }

  private static long seen(DesertWire x) {
    long sum = 0;
    for (int what = 0; what <= 12; what++) {
      sum = 31 * sum + x.count(what);
    }
    for (int work = 0; work < x.count(0); work++) {
      sum = 31 * sum + x.workIs(work, 4) + x.workIs(work, 6);
    }
    for (int party = 0; party < x.count(2); party++) {
      for (int what = 0; what < 9; what++) {
        sum = 31 * sum + x.partyIs(party, what);
      }
    }
    for (int i = 0; i < x.count(7); i++) {
      sum = 31 * sum + x.trace(i);
    }
    for (int mile = 0; mile < 40; mile++) {
      sum = 31 * sum + x.mileIs(mile, 0) + x.mileIs(mile, 1);
    }
    return sum;
  }

  private static void findingsChangeNothing(long of) {
    seed = of;
    DesertWire x = new DesertWire();
    for (int i = 0; i < CALLS; i++) {
      int which = any(42);
      int ahead = findings(x);
      long was = seen(x);
      int answer = call(x, which);
      int more = findings(x) - ahead;
      boolean finding = answer < -1000000 && answer >= -1000005;
      // A RATE or a VOICE may come to any number.
      if (which != 23 && which != 24 && which != 31 && which != 4) {
        due.is("findings by call " + which, more, finding ? 1 : 0);
      }
      if (more > 0) {
        due.is("a change by call " + which, seen(x) == was ? 0 : 1, 0);
      }
    }
  }

  public static void main(String[] args) {
    for (int of = 1; of <= 400; of++) {
      int[] once = run(of);
      due.is("run " + of + " the same again", Arrays.equals(once, run(of)) ? 1 : 0, 1);
    }
    for (int of = 1; of <= 60; of++) {
      findingsChangeNothing(1000 + of);
    }
    due.end();
  }
}
