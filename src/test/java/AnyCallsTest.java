import java.util.Arrays;

/**
 * Runs of 512 calls with any arguments: nothing throws, the same calls give the same answers, a
 * finding is counted and changes nothing else.
 */
public final class AnyCallsTest {
  private static final Due due = new Due("AnyCallsTest");
  private static final int CALLS = 512;
  private static final int FOUND = 41;
  private static final int[] ODD = {
    Integer.MIN_VALUE, Integer.MAX_VALUE, -2, 100, 200, 1000, 10000, 65536, Integer.MAX_VALUE - 7,
  };
  private static final String SIGNS = "ncmldksg0123456789(()--!|&<=>+*%";

  private static long seed = 1;

  private static int any(int bound) {
    seed = seed * 6364136223846793005L + 1442695040888963407L;
    return (int) ((seed >>> 33) % bound);
  }

  /** Mostly from -1 to the bound, now and then something odd. */
  private static int near(int bound) {
    return any(25) == 0 ? ODD[any(ODD.length)] : any(12) == 0 ? any(bound + 2) - 1 : any(bound);
  }

  private static long signs() {
    long word = 0;
    for (int i = 0; i < 8; i++) {
      word = word << 8 | SIGNS.charAt(any(SIGNS.length()));
    }
    return word;
  }

  private static int call(DesertWire x, int which) {
    switch (which) {
      case 0: return x.rain(near(12), near(10));
      case 1: return x.land(near(40), near(3), near(100));
      case 2: return x.work(near(6), near(6), near(51));
      case 3: return x.as(near(20), near(6));
      case 4: return x.workIs(near(20), near(8));
      case 5: return x.fell(near(60));
      case 6: return x.lay(near(20), near(600));
      case 7: return x.mileIs(near(40), near(6));
      case 8: return x.soils(near(4), near(40));
      case 9: return x.party(near(8), near(2) * 2 - 1, near(3000), near(30));
      case 10: return x.partyIs(near(4), near(9));
      case 11: return x.give(near(4), near(3), near(99));
      case 12: return x.rest(near(4), any(4) == 0);
      case 13: return x.turn(near(4));
      case 14: return x.hand(near(4), near(4), near(20));
      case 15: return x.reach(near(60));
      case 16: return x.reads(near(20), near(20));
      case 17: return x.hands(near(20), near(20), near(4) - 1);
      case 18: return x.slip(near(4), near(20), near(20), near(4) - 1);
      case 19: return x.broke(near(20), near(9), near(30), 20 + near(20), near(9), near(30));
      case 20: return x.feed(any(3) == 0 ? signs() * any(9) : signs(), near(9));
      default: return callMore(x, which);
    }
  }

  private static int callMore(DesertWire x, int which) {
    switch (which) {
      case 21: return x.rate(near(3), near(100));
      case 22: return x.force(near(3), near(100));
      case 23: return x.price(near(3), near(100), near(100), near(100));
      case 24: return x.owed(near(100));
      case 25: return x.load(near(4), near(4), near(10) - 2);
      case 26: return x.meeting(near(4), near(4), near(4), near(2));
      case 27: return x.judge(near(4), near(4), near(4), near(12), near(9999));
      case 28: return x.days(near(12));
      case 29: return x.ahead(near(100), near(11), near(4));
      case 30: return x.joined(near(8), near(8));
      case 31: return x.voice(near(20), near(4), near(1000));
      case 32: return x.trace(near(20));
      case 33: return x.sheet(near(4), 8 * near(5), near(37));
      case 34: return x.put(near(4), near(12), near(6) - 1);
      case 35: return x.move(near(4), near(12), near(4), near(12), near(12));
      case 36: return x.image();
      case 37: return any(9) == 0 ? x.restore() : x.count(5);
      case 38: return x.tell(near(12) - 1);
      case 39: return x.check();
      case 40: return x.count(near(13));
      default: return x.found(near(6));
    }
  }

  private static int[] run(long of) {
    seed = of;
    DesertWire x = new DesertWire();
    int[] answers = new int[CALLS];
    for (int i = 0; i < CALLS; i++) {
      answers[i] = call(x, any(42));
    }
    return answers;
  }

  /** Left out, the calls that answered findings make no difference to the others. */
  private static void findingsChangeNothing(long of) {
    seed = of;
    DesertWire x = new DesertWire();
    DesertWire without = new DesertWire();
    int[] tally = new int[6];
    for (int i = 0; i < CALLS - 5; i++) {
      int which = any(42);
      long since = seed;
      int answer = call(x, which);
      boolean finding = answer < -1000000 && answer >= -1000005;
      if (finding) {
        tally[-1000000 - answer]++;
      } else {
        seed = since;
        int other = call(without, which);
        due.is("call " + i + ", " + which + ", without findings", other, which == FOUND ? other : answer);
      }
    }
    for (int k = 1; k <= 5; k++) {
      due.is("found(" + k + ") in run " + of, x.found(k), tally[k]);
    }
  }

  public static void main(String[] args) {
    for (int of = 1; of <= 400; of++) {
      int[] once = run(of);
      due.is("run " + of + " the same again", Arrays.equals(once, run(of)) ? 1 : 0, 1);
    }
    for (int of = 1; of <= 200; of++) {
      findingsChangeNothing(1000 + of);
    }
    due.end();
  }
}
