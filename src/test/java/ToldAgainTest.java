import java.util.ArrayList;
import java.util.List;

/**
 * Promises 2 to 19, 30 to 32 and 42: the land, works, parties, days and words told a second time,
 * as plainly as Terms 1 to 4 have it, and compared with the class over runs of any acts.
 */
public final class ToldAgainTest {
  private static final Due due = new Due("ToldAgainTest");
  private static final int[] MILES = {0, 1, 2, 3, 4, 37, 38, 39};

  private static long seed = 1;

  private static int any(int bound) {
    seed = seed * 6364136223846793005L + 1442695040888963407L;
    return (int) ((seed >>> 33) % bound);
  }

  private static final class Work {
    int kind;
    int mile;
    int size;
    int since;
    int food;
    boolean down;

    Work(int kind, int mile, int size, int since) {
      this.kind = kind;
      this.mile = mile;
      this.size = size;
      this.since = since;
    }

    Work again() {
      Work other = new Work(kind, mile, size, since);
      other.food = food;
      other.down = down;
      return other;
    }
  }

  private static final class Party {
    int mile;
    int way;
    int men;
    int beasts;
    int poles;
    int food;
    int drink;
    int dug;
    boolean rests;
    boolean lost;

    int is(int what) {
      return new int[] {mile, way, men, beasts, poles, food, drink, dug, lost ? 2 : rests ? 1 : 0}[what];
    }

    Party again() {
      Party other = new Party();
      other.mile = mile;
      other.way = way;
      other.men = men;
      other.beasts = beasts;
      other.poles = poles;
      other.food = food;
      other.drink = drink;
      other.dug = dug;
      other.rests = rests;
      other.lost = lost;
      return other;
    }
  }

  /** The land as Terms 1 to 4 tell it. */
  private static final class Land {
    int day = 0;
    int reach = 40;
    final int[] rain = {2, 2, 2, 2, 2, 2, 2, 2, 2, 2, 2, 2};
    final int[] soil = new int[40];
    final int[] spring = new int[40];
    final List<Work> works = new ArrayList<>();
    final List<Party> parties = new ArrayList<>();

    Land again() {
      Land other = new Land();
      other.day = day;
      other.reach = reach;
      System.arraycopy(rain, 0, other.rain, 0, 12);
      System.arraycopy(soil, 0, other.soil, 0, 40);
      System.arraycopy(spring, 0, other.spring, 0, 40);
      for (Work w : works) {
        other.works.add(w.again());
      }
      for (Party p : parties) {
        other.parties.add(p.again());
      }
      return other;
    }

    boolean stands(Work w, int mile, int least, int most) {
      return !w.down && w.mile == mile && w.kind >= least && w.kind <= most;
    }

    boolean wired(int mile) {
      return leak(mile) >= 0;
    }

    int leak(int mile) {
      int least = -1;
      for (Work w : works) {
        if (stands(w, mile, 1, 3)) {
          int leak = 1 + rain[day / 30 % 12] + (day - w.since) / 30;
          leak = leak > 9 ? 9 : leak;
          leak = w.kind == 1 ? leak : leak / 2;
          least = least == -1 || leak < least ? leak : least;
        }
      }
      return least;
    }

    int effort(int mile) {
      return soil[mile] == 0 ? 10 : soil[mile] == 1 ? 40 : 20 + 10 * rain[day / 30 % 12];
    }

    int wells(int mile) {
      int gives = 0;
      for (Work w : works) {
        gives += stands(w, mile, 4, 4) ? w.size : 0;
      }
      return gives;
    }

    int wiredMiles() {
      int wired = 0;
      for (int mile = 0; mile < 40; mile++) {
        wired += wired(mile) ? 1 : 0;
      }
      return wired;
    }

    void endDay() {
      for (Work w : works) {
        int stood = day + 1 - w.since;
        if (w.kind == 1 && stood >= (soil[w.mile] == 0 ? 60 : 120)) {
          w.down = true;
        }
      }
      for (Party p : parties) {
        if (!p.lost) {
          drink(p);
          eat(p);
        }
      }
      for (Party p : parties) {
        if (!p.lost && !p.rests) {
          labour(p);
        }
      }
      day++;
    }

    private void drink(Party p) {
      int gives = spring[p.mile] + wells(p.mile);
      int most = 50 * (p.men + p.beasts);
      while (gives > 0 && p.drink < most) {
        p.drink++;
        gives--;
      }
      p.drink -= p.men + 2 * p.beasts;
      if (p.drink < 0) {
        p.drink = 0;
        if (p.beasts > 0) {
          p.beasts--;
        } else {
          p.men--;
        }
      }
    }

    private void eat(Party p) {
      for (Work w : works) {
        while (stands(w, p.mile, 5, 5) && w.food > 0 && p.food < 20 * p.men) {
          w.food--;
          p.food++;
        }
      }
      p.food -= p.men;
      if (p.food < 0) {
        p.food = 0;
        p.men--;
      }
      p.lost = p.men == 0;
    }

    private void labour(Party p) {
      if (wired(p.mile)) {
        p.dug = 0;
        int next = p.mile + p.way;
        if (next < 0 || next > 39) {
          p.rests = true;
        } else {
          p.mile = next;
        }
        return;
      }
      p.dug += p.men;
      if (p.dug >= effort(p.mile) && p.poles > 0 && works.size() < 60) {
        works.add(new Work(1, p.mile, 1, day + 1));
        p.poles--;
        p.dug = 0;
      }
    }

    boolean reads(int a, int b) {
      Work one = works.get(a);
      Work other = works.get(b);
      if (one.down || other.down) {
        return false;
      }
      if (one.mile == other.mile) {
        return true;
      }
      int low = Math.min(one.mile, other.mile);
      int high = Math.max(one.mile, other.mile);
      int sum = 0;
      for (int mile = low; mile <= high; mile++) {
        if (!wired(mile)) {
          return false;
        }
        sum += mile == low || mile == high ? 0 : leak(mile);
      }
      return sum <= reach;
    }

    /** The first of all ways of so many hands, by trying those with the least STATIONS first. */
    boolean hands(List<Integer> way, int b, int length) {
      int last = way.get(way.size() - 1);
      if (way.size() == length) {
        return last == b;
      }
      for (int next = 0; next < works.size(); next++) {
        if (works.get(next).kind == 3 && !way.contains(next) && reads(last, next)) {
          way.add(next);
          if (hands(way, b, length)) {
            return true;
          }
          way.remove(way.size() - 1);
        }
      }
      return false;
    }
  }

  private final DesertWire x = new DesertWire();
  private final Land land = new Land();
  private final int of;

  private ToldAgainTest(int of) {
    this.of = of;
  }

  private void is(String call, int got, int want) {
    due.is("run " + of + ", DAY " + land.day + ": " + call, got, want);
  }

  private int anyMile() {
    return MILES[any(MILES.length)];
  }


  private void act(int which) {
    switch (which) {
      case 0: {
        int month = any(12);
        int v = any(10);
        is("rain", x.rain(month, v), land.rain[month]);
        land.rain[month] = v;
        break;
      }
      case 1: {
        int mile = anyMile();
        int soil = any(3);
        int spring = any(3) == 0 ? any(100) : any(9);
        is("land", x.land(mile, soil, spring), 100 * land.soil[mile] + land.spring[mile]);
        land.soil[mile] = soil;
        land.spring[mile] = spring;
        break;
      }
      case 2: case 3:
        made(new Work(any(6), anyMile(), 1 + any(50), land.day));
        break;
      case 4:
        fell();
        break;
      case 5: case 6:
        lay();
        break;
      case 7: case 8:
        party();
        break;
      case 9: case 10: case 11: case 12:
        give();
        break;
      case 13:
        turnOrRest();
        break;
      case 14:
        hand();
        break;
      default:
        days(any(4) == 0 ? 1 + any(40) : 1 + any(4));
        break;
    }
  }

  private void made(Work w) {
    boolean room = land.works.size() < 60;
    is("work", x.work(w.kind, w.mile, w.size), room ? land.works.size() : Due.FULL);
    if (room) {
      land.works.add(w);
    }
  }

  private void fell() {
    if (land.works.isEmpty()) {
      return;
    }
    int n = any(land.works.size());
    Work w = land.works.get(n);
    is("fell", x.fell(n), w.down ? Due.STATE : 1);
    w.down = true;
  }

  private void lay() {
    for (int n = 0; n < land.works.size(); n++) {
      Work w = land.works.get(n);
      if (any(3) == 0 && w.kind == 5) {
        int food = 1 + any(2000);
        boolean fits = !w.down && w.food + food <= 9999;
        is("lay", x.lay(n, food), w.down ? Due.STATE : fits ? w.food + food : Due.FULL);
        w.food += fits ? food : 0;
      }
    }
  }

  private void party() {
    Party p = new Party();
    p.mile = anyMile();
    p.way = any(2) == 0 ? 1 : -1;
    p.men = 1 + any(12);
    p.beasts = any(6);
    p.poles = any(9);
    boolean room = land.parties.size() < 4;
    is("party", x.party(p.mile, p.way, 100 * p.men + p.beasts, p.poles),
        room ? land.parties.size() : Due.FULL);
    if (room) {
      land.parties.add(p);
    }
  }

  private void give() {
    if (land.parties.isEmpty()) {
      return;
    }
    int n = any(land.parties.size());
    Party p = land.parties.get(n);
    int what = any(3);
    int more = what == 2 ? 1 + any(20) : 1 + any(400);
    int has = (what == 0 ? p.food : what == 1 ? p.drink : p.poles) + more;
    boolean fits = has <= (what == 2 ? 99 : 9999);
    is("give", x.give(n, what, more), p.lost ? Due.STATE : fits ? has : Due.FULL);
    if (!p.lost && fits) {
      p.food = what == 0 ? has : p.food;
      p.drink = what == 1 ? has : p.drink;
      p.poles = what == 2 ? has : p.poles;
    }
  }

  private void turnOrRest() {
    if (land.parties.isEmpty()) {
      return;
    }
    int n = any(land.parties.size());
    Party p = land.parties.get(n);
    if (any(2) == 0) {
      is("turn", x.turn(n), p.lost ? Due.STATE : -p.way);
      p.way = p.lost ? p.way : -p.way;
    } else {
      boolean rests = any(3) == 0;
      is("rest", x.rest(n, rests), p.lost ? Due.STATE : rests == p.rests ? 0 : 1);
      p.rests = p.lost ? p.rests : rests;
    }
  }

  private void hand() {
    int from = any(4);
    int to = any(4);
    int n = 1 + any(5);
    if (from >= land.parties.size() || to >= land.parties.size() || from == to) {
      is("hand", x.hand(from, to, n), Due.BEYOND);
      return;
    }
    Party p = land.parties.get(from);
    Party q = land.parties.get(to);
    if (p.lost || q.lost || p.mile != q.mile || p.men <= n) {
      is("hand", x.hand(from, to, n), Due.STATE);
      return;
    }
    boolean fits = q.men + n <= 50;
    is("hand", x.hand(from, to, n), fits ? q.men + n : Due.FULL);
    p.men -= fits ? n : 0;
    q.men += fits ? n : 0;
  }

  private void days(int n) {
    Land behind = land.again();
    for (int i = 0; i < n; i++) {
      behind.endDay();
    }
    int what = any(11);
    int i = any(4);
    boolean beyond = what < 9 && i >= land.parties.size();
    is("ahead(" + n + ", " + what + ", " + i + ")", x.ahead(n, what, i), beyond ? Due.BEYOND
        : what == 9 ? behind.wiredMiles() : what == 10 ? behind.works.size()
        : behind.parties.get(i).is(what));
    joined();
    is("days", x.days(n), land.day + n);
    for (int each = 0; each < n; each++) {
      land.endDay();
    }
    for (int party = 0; party < land.parties.size(); party++) {
      is("DUG of " + party, x.partyIs(party, 7), land.parties.get(party).dug);
    }
  }

  private void joined() {
    int from = any(5);
    int to = from + any(3);
    Land behind = land.again();
    int want = Due.NONE;
    for (int i = 0; i <= 200 && want == Due.NONE; i++) {
      boolean all = true;
      for (int mile = from; mile <= to; mile++) {
        all &= behind.wired(mile);
      }
      want = all ? behind.day : want;
      behind.endDay();
    }
    is("joined(" + from + ", " + to + ")", x.joined(from, to), want);
  }

  private void all() {
    for (int party = 0; party < land.parties.size(); party++) {
      for (int what = 0; what < 9; what++) {
        is("partyIs(" + party + ", " + what + ")", x.partyIs(party, what), land.parties.get(party).is(what));
      }
    }
    for (int mile : MILES) {
      is("mileIs(" + mile + ", 2)", x.mileIs(mile, 2), land.wired(mile) ? 1 : 0);
      is("mileIs(" + mile + ", 3)", x.mileIs(mile, 3), land.leak(mile));
      is("mileIs(" + mile + ", 4)", x.mileIs(mile, 4), land.effort(mile));
      is("mileIs(" + mile + ", 5)", x.mileIs(mile, 5), land.wells(mile));
    }
    int down = 0;
    int stored = 0;
    for (int n = 0; n < land.works.size(); n++) {
      Work w = land.works.get(n);
      is("workIs(" + n + ", 1)", x.workIs(n, 1), w.mile);
      is("workIs(" + n + ", 3)", x.workIs(n, 3), w.since);
      is("workIs(" + n + ", 4)", x.workIs(n, 4), w.down ? 1 : 0);
      is("workIs(" + n + ", 6)", x.workIs(n, 6), w.kind == 5 ? w.food : -1);
      down += w.down ? 1 : 0;
      stored += w.down ? 0 : w.food;
    }
    is("count(0)", x.count(0), land.works.size());
    is("count(1)", x.count(1), down);
    is("count(9)", x.count(9), land.wiredMiles());
    is("count(12)", x.count(12), stored);
  }

  private static void runOfDays(int of) {
    seed = of;
    ToldAgainTest run = new ToldAgainTest(of);
    for (int i = 0; i < 60 && run.land.day < 1700; i++) {
      run.act(any(20));
    }
    run.all();
  }

  /** A wire of a few MILES with many STATIONS, and every pair of hands. */
  private static void runOfWords(int of) {
    seed = of;
    ToldAgainTest run = new ToldAgainTest(of);
    for (int i = 0; i < 8 + any(10); i++) {
      run.made(new Work(any(4) == 0 ? 1 + any(2) : 3, any(6), 1 + any(50), run.land.day));
      if (any(9) == 0) {
        run.act(any(3) == 0 ? 4 : 0);
      }
    }
    run.days(1 + any(80));
    int v = any(2) == 0 ? 1 : 1 + any(9);
    run.is("reach", run.x.reach(v), run.land.reach);
    run.land.reach = v;
    for (int i = 0; i < 30; i++) {
      run.words(any(run.land.works.size()), any(run.land.works.size()));
    }
  }

  private void words(int a, int b) {
    if (a == b || land.works.get(a).kind != 3 || land.works.get(b).kind != 3) {
      is("reads(" + a + ", " + b + ")", x.reads(a, b), a == b ? Due.BEYOND : Due.KIND);
      is("hands(" + a + ", " + b + ")", x.hands(a, b, -1), a == b ? Due.BEYOND : Due.KIND);
      return;
    }
    is("reads(" + a + ", " + b + ")", x.reads(a, b), land.reads(a, b) ? 1 : 0);
    List<Integer> way = new ArrayList<>();
    way.add(a);
    boolean found = false;
    // Among MILES 0 to 5 no way of the fewest hands has more than six.
    for (int length = 2; length <= 6 && !found; length++) {
      found = land.hands(way, b, length);
    }
    is("hands(" + a + ", " + b + ")", x.hands(a, b, -1), found ? way.size() : Due.NONE);
    for (int i = 0; found && i <= way.size(); i++) {
      is("hand " + i, x.hands(a, b, i), i < way.size() ? way.get(i) : Due.NONE);
    }
  }

  public static void main(String[] args) {
    for (int of = 1; of <= 400; of++) {
      runOfDays(of);
    }
    for (int of = 1; of <= 150; of++) {
      runOfWords(5000 + of);
    }
    due.end();
  }
}
