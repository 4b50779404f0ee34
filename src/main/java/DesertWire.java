/** A wire across an empty land. What every call answers is said by the document's promises. */
public final class DesertWire {

  private static final int LOW = -1000000;
  private static final int BEYOND = 1;
  private static final int NONE = 2;
  private static final int STATE = 3;
  private static final int FULL = 4;
  private static final int KIND = 5;
  private static final int FINDINGS = 5;

  private static final int LAST_DAY = 2000;
  private static final int MOST_DAYS = 200;
  private static final int MONTHS = 12;
  private static final int MILES = 40;
  private static final int MOST_RAIN = 9;
  private static final int MOST_SPRING = 99;

  private static final int SAND = 0;
  private static final int ROCK = 1;
  private static final int CLAY = 2;

  private static final int WORKS = 60;
  private static final int KINDS = 6;
  private static final int WORK = 0;
  private static final int POLE = 1;
  private static final int IRON = 2;
  private static final int STATION = 3;
  private static final int WELL = 4;
  private static final int DEPOT = 5;
  private static final int MOST_SIZE = 50;

  private static final int PARTIES = 4;
  private static final int MOST_MEN = 50;
  private static final int MOST_BEASTS = 50;
  private static final int MOST_POLES = 99;
  private static final int MOST_STORE = 9999;

  // What a PARTY is, in the order of partyIs().
  private static final int FACTS = 9;
  private static final int ITS_MILE = 0;
  private static final int ITS_WAY = 1;
  private static final int ITS_MEN = 2;
  private static final int ITS_BEASTS = 3;
  private static final int ITS_POLES = 4;
  private static final int ITS_FOOD = 5;
  private static final int ITS_DRINK = 6;
  private static final int ITS_DUG = 7;
  private static final int ITS_MODE = 8;

  private static final int AT_WORK = 0;
  private static final int AT_REST = 1;
  private static final int LOST = 2;

  private static final int MOST_REACH = 200;
  private static final int WAITS = 20;

  private static final int TAPE = 50;
  private static final int RATES = 12;
  private static final int USES = 3;
  private static final int PRICE = 0;
  private static final int LATE = 1;
  private static final int WANT = 2;
  private static final int MOST_OPEN = 4;
  private static final int MOST_DIGITS = 4;

  private static final int THINGS = 8;
  private static final int CARRIED = 12;
  private static final int CAPACITIES = CARRIED * MOST_BEASTS + 1;

  private static final int SHEETS = 4;
  private static final int NUMBERS = 36;

  private static final int STAND = 0;
  private static final int PASS = 1;
  private static final int COST = 2;
  private static final int TELL = 3;
  private static final int VOICES = 4;
  private static final int TRACE = 40;

  private final World now = new World();
  private final World kept = new World();
  private final World future = new World();
  private final Rates rates = new Rates();
  private final Rates keptRates = new Rates();
  private final Reader reader = new Reader();
  private final Hands words = new Hands();
  private final Loads loads = new Loads();
  private final Meetings meetings = new Meetings();
  private final Voices voices = new Voices();
  private final Sheets sheets = new Sheets();
  private final int[] findings = new int[FINDINGS + 1];
  private int images;

  /** Promise 1. */
  public DesertWire() {
    images = 0;
  }

  // ---- the land, works

  /** Promise 2. */
  public int rain(int month, int v) {
    if (month < 0 || month >= MONTHS || v < 0 || v > MOST_RAIN) {
      return finding(BEYOND);
    }
    int was = now.rains[month];
    now.rains[month] = v;
    return was;
  }

  /** Promise 3. */
  public int land(int mile, int soil, int spring) {
    if (!isMile(mile) || soil < SAND || soil > CLAY || spring < 0 || spring > MOST_SPRING) {
      return finding(BEYOND);
    }
    int was = 100 * now.soils[mile] + now.springs[mile];
    now.soils[mile] = soil;
    now.springs[mile] = spring;
    return was;
  }

  /** Promise 4. */
  public int work(int kind, int mile, int size) {
    if (kind < WORK || kind >= KINDS || !isMile(mile) || size < 1 || size > MOST_SIZE) {
      return finding(BEYOND);
    }
    if (!now.works.hasRoom()) {
      return finding(FULL);
    }
    return now.works.add(kind, mile, size, now.day);
  }

  /** Promise 5. */
  public int as(int work, int kind) {
    if (!now.works.has(work) || kind < WORK || kind >= KINDS) {
      return finding(BEYOND);
    }
    if (!isOf(now.works.kindOf(work), kind)) {
      return finding(KIND);
    }
    return now.works.sizeOf(work);
  }

  /** Promise 6. */
  public int workIs(int work, int what) {
    if (!now.works.has(work)) {
      return finding(BEYOND);
    }
    Works works = now.works;
    switch (what) {
      case 0: return works.kindOf(work);
      case 1: return works.mileOf(work);
      case 2: return works.sizeOf(work);
      case 3: return works.sinceOf(work);
      case 4: return works.isDown(work) ? 1 : 0;
      case 5: return now.eatenOn(work);
      case 6: return works.kindOf(work) == DEPOT ? works.foodOf(work) : -1;
      case 7: return wantOf(work);
      default: return finding(BEYOND);
    }
  }

  /** Promise 7. */
  public int fell(int work) {
    if (!now.works.has(work)) {
      return finding(BEYOND);
    }
    if (now.works.isDown(work)) {
      return finding(STATE);
    }
    now.works.bringDown(work);
    return 1;
  }

  /** Promise 8. */
  public int lay(int depot, int food) {
    if (!now.works.has(depot) || food < 1 || food > MOST_STORE) {
      return finding(BEYOND);
    }
    if (now.works.kindOf(depot) != DEPOT) {
      return finding(KIND);
    }
    if (now.works.isDown(depot)) {
      return finding(STATE);
    }
    int held = now.works.foodOf(depot) + food;
    if (held > MOST_STORE) {
      return finding(FULL);
    }
    now.works.holdFood(depot, held);
    return held;
  }

  /** Promise 9. */
  public int mileIs(int mile, int what) {
    if (!isMile(mile)) {
      return finding(BEYOND);
    }
    switch (what) {
      case 0: return now.soilOf(mile);
      case 1: return now.springOf(mile);
      case 2: return now.works.isWired(mile) ? 1 : 0;
      case 3: return now.leakOf(mile);
      case 4: return now.effortOf(mile);
      case 5: return now.works.drinkIn(mile);
      default: return finding(BEYOND);
    }
  }

  /** Promise 10. */
  public int soils(int sheet, int mile) {
    if (!isSheet(sheet) || !isMile(mile)) {
      return finding(BEYOND);
    }
    if (sheets.isMissing(sheet)) {
      return finding(NONE);
    }
    if (sheets.lengthOf(sheet) > MILES - mile) {
      return finding(STATE);
    }
    if (!sheets.allWithin(sheet, -1, CLAY)) {
      return finding(KIND);
    }
    return tellSoils(sheet, mile);
  }

  private int tellSoils(int sheet, int mile) {
    int told = 0;
    for (int i = 0; i < sheets.lengthOf(sheet) && mile + i < MILES; i++) {
      int soil = sheets.numberAt(sheet, i);
      if (soil >= 0) {
        now.soils[mile + i] = soil;
        told++;
      }
    }
    return told;
  }

  // ---- parties

  /** Promise 11. */
  public int party(int mile, int way, int men, int poles) {
    boolean fits = isMile(mile) && (way == 1 || way == -1) && poles >= 0 && poles <= MOST_POLES;
    if (!fits || men < 100 || men / 100 > MOST_MEN || men % 100 > MOST_BEASTS) {
      return finding(BEYOND);
    }
    if (!now.parties.hasRoom()) {
      return finding(FULL);
    }
    int party = now.parties.add();
    now.parties.set(party, ITS_MILE, mile);
    now.parties.set(party, ITS_WAY, way);
    now.parties.set(party, ITS_MEN, men / 100);
    now.parties.set(party, ITS_BEASTS, men % 100);
    now.parties.set(party, ITS_POLES, poles);
    return party;
  }

  /** Promise 12. */
  public int partyIs(int party, int what) {
    if (!now.parties.has(party) || what < 0 || what >= FACTS) {
      return finding(BEYOND);
    }
    return now.parties.get(party, what);
  }

  /** Promise 13. */
  public int give(int party, int what, int n) {
    if (!now.parties.has(party) || what < 0 || what > 2) {
      return finding(BEYOND);
    }
    int most = what == 2 ? MOST_POLES : MOST_STORE;
    if (n < 1 || n > most) {
      return finding(BEYOND);
    }
    if (now.parties.isLost(party)) {
      return finding(STATE);
    }
    int fact = what == 0 ? ITS_FOOD : what == 1 ? ITS_DRINK : ITS_POLES;
    int has = now.parties.get(party, fact) + n;
    if (has > most) {
      return finding(FULL);
    }
    now.parties.set(party, fact, has);
    return has;
  }

  /** Promise 14. */
  public int rest(int party, boolean is) {
    if (!now.parties.has(party)) {
      return finding(BEYOND);
    }
    if (now.parties.isLost(party)) {
      return finding(STATE);
    }
    int mode = is ? AT_REST : AT_WORK;
    int was = now.parties.get(party, ITS_MODE);
    now.parties.set(party, ITS_MODE, mode);
    return was == mode ? 0 : 1;
  }

  /** Promise 15. */
  public int turn(int party) {
    if (!now.parties.has(party)) {
      return finding(BEYOND);
    }
    if (now.parties.isLost(party)) {
      return finding(STATE);
    }
    int turned = -now.parties.get(party, ITS_WAY);
    now.parties.set(party, ITS_WAY, turned);
    return turned;
  }

  /** Promise 16. */
  public int hand(int from, int to, int n) {
    Parties parties = now.parties;
    if (!parties.has(from) || !parties.has(to) || from == to || n < 1 || n > MOST_MEN) {
      return finding(BEYOND);
    }
    boolean lost = parties.isLost(from) || parties.isLost(to);
    boolean apart = parties.get(from, ITS_MILE) != parties.get(to, ITS_MILE);
    if (lost || apart || parties.get(from, ITS_MEN) < n + 1) {
      return finding(STATE);
    }
    if (parties.get(to, ITS_MEN) + n > MOST_MEN) {
      return finding(FULL);
    }
    parties.more(from, ITS_MEN, -n);
    parties.more(to, ITS_MEN, n);
    return parties.get(to, ITS_MEN);
  }

  // ---- words, breaks

  /** Promise 17. */
  public int reach(int v) {
    if (v < 1 || v > MOST_REACH) {
      return finding(BEYOND);
    }
    int was = now.reach;
    now.reach = v;
    return was;
  }

  /** Promise 18. */
  public int reads(int a, int b) {
    if (!areTwoWorks(a, b)) {
      return finding(BEYOND);
    }
    if (!areStations(a, b)) {
      return finding(KIND);
    }
    words.survey(now);
    return words.canRead(now, a, b) ? 1 : 0;
  }

  /** Promise 19. */
  public int hands(int a, int b, int i) {
    if (!areTwoWorks(a, b) || i < -1) {
      return finding(BEYOND);
    }
    if (!areStations(a, b)) {
      return finding(KIND);
    }
    int length = words.find(now, a, b);
    if (length == 0 || i >= length) {
      return finding(NONE);
    }
    return i == -1 ? length : words.stationAt(i);
  }

  /** Promise 20. That there is no i-th is asked ahead of STATE, as the document lists it. */
  public int slip(int sheet, int a, int b, int i) {
    if (!isSheet(sheet) || !areTwoWorks(a, b) || i < -1) {
      return finding(BEYOND);
    }
    if (!areStations(a, b)) {
      return finding(KIND);
    }
    if (sheets.isMissing(sheet)) {
      return finding(NONE);
    }
    int length = words.find(now, a, b);
    int slip = slipOn(sheet, i);
    if (length == 0 || slip < 0) {
      return finding(NONE);
    }
    if (sheets.lengthOf(sheet) != length) {
      return finding(STATE);
    }
    return slip;
  }

  /** The i-th SLIP on a SHEET, or -1; for an i of -1 how many SLIPS there are. */
  private int slipOn(int sheet, int i) {
    int slips = 0;
    int last = -1;
    for (int place = 0; place < sheets.lengthOf(sheet); place++) {
      int copy = sheets.numberAt(sheet, place);
      if (copy == -1) {
        continue;
      }
      if (last >= 0 && sheets.numberAt(sheet, last) != copy) {
        if (slips == i) {
          return 100 * (last + 1) + place;
        }
        slips++;
      }
      last = place;
    }
    return i == -1 ? slips : -1;
  }

  /** Promise 21. */
  public int broke(int a, int from, int to, int b, int low, int high) {
    boolean miles = isMile(a) && isMile(b) && a < b;
    if (!miles || !isSpan(from, to) || !isSpan(low, high)) {
      return finding(BEYOND);
    }
    int least = Math.max(a + from, b - high);
    int greatest = Math.min(a + to, b - low);
    if (least > greatest) {
      return finding(NONE);
    }
    return 100 * least + greatest;
  }

  private static boolean isSpan(int from, int to) {
    return from >= 0 && from <= to && to < MILES;
  }

  // ---- rates

  /** Promise 22. */
  public int feed(long word, int n) {
    if (n < 1 || n > 8) {
      return finding(BEYOND);
    }
    if (rates.taped + n > TAPE) {
      return finding(FULL);
    }
    rates.append(word, n);
    return rates.taped;
  }

  /** Promise 23. */
  public int rate(int use, int from) {
    if (!isUse(use) || !isDay(from)) {
      return finding(BEYOND);
    }
    if (!rates.hasRoom()) {
      return finding(FULL);
    }
    reader.open(rates.tape, 0, rates.taped);
    reader.valueFor(use, 0, 0, 0);
    int fault = reader.fault();
    if (fault >= 0) {
      rates.taped = 0;
      return -10 - fault;
    }
    return rates.keepTape(use, from);
  }

  /** Promise 24. */
  public int force(int use, int day) {
    if (!isUse(use) || !isDay(day)) {
      return finding(BEYOND);
    }
    int rate = rates.inForce(use, day);
    return rate < 0 ? finding(NONE) : rate;
  }

  /** Promise 25. */
  public int price(int use, int a, int b, int c) {
    if (!isUse(use)) {
      return finding(BEYOND);
    }
    return valueOf(use, a, b, c);
  }

  /** Promise 26. */
  public int owed(int due) {
    if (!isDay(due)) {
      return finding(BEYOND);
    }
    return now.day > due ? valueOf(LATE, now.day - due, now.day, 0) : 0;
  }

  private int wantOf(int work) {
    Works works = now.works;
    if (works.isDown(work) || !isPole(works.kindOf(work))) {
      return 0;
    }
    return valueOf(WANT, works.kindOf(work), works.sizeOf(work), 0);
  }

  /** What a USE comes to on the DAY, its NAMES being a, b, c in their order. */
  private int valueOf(int use, int a, int b, int c) {
    int rate = rates.inForce(use, now.day);
    if (rate >= 0) {
      reader.open(rates.texts, rate * TAPE, rates.lengthOf(rate));
    }
    switch (use) {
      case PRICE: return rate < 0 ? a * c : reader.valueFor(use, a, b, c);
      case LATE: return rate < 0 ? 70 * a : reader.valueFor(use, a, b, c);
      default: return Math.max(0, rate < 0 ? b - c : reader.valueFor(use, a, b, c));
    }
  }

  // ---- loads, meetings

  /** Promise 27. */
  public int load(int party, int sheet, int i) {
    if (!now.parties.has(party) || !isSheet(sheet) || i < -2) {
      return finding(BEYOND);
    }
    if (sheets.isMissing(sheet)) {
      return finding(NONE);
    }
    if (!areThings(sheet)) {
      return finding(KIND);
    }
    int things = sheets.lengthOf(sheet) / 3;
    if (i >= things) {
      return finding(STATE);
    }
    loads.pack(sheets, sheet, CARRIED * now.parties.get(party, ITS_BEASTS));
    return i == -1 ? loads.worth : i == -2 ? loads.weight : loads.takenOf(i);
  }

  private boolean areThings(int sheet) {
    int length = sheets.lengthOf(sheet);
    if (length < 3 || length > 3 * THINGS || length % 3 != 0) {
      return false;
    }
    for (int i = 0; i < length; i += 3) {
      boolean weighs = isWithin(sheets.numberAt(sheet, i), 1, 40);
      boolean worth = isWithin(sheets.numberAt(sheet, i + 1), 0, 999);
      if (!weighs || !worth || !isWithin(sheets.numberAt(sheet, i + 2), 1, 3)) {
        return false;
      }
    }
    return true;
  }

  /** Promise 28. */
  public int meeting(int a, int b, int sheet, int what) {
    if (!areParties(a, b) || !isSheet(sheet) || what < 0 || what > 1) {
      return finding(BEYOND);
    }
    int unmet = whyNoMeeting(a, b, sheet);
    if (unmet != 0) {
      return finding(unmet);
    }
    meetings.weigh(now, sheets, sheet, a, b);
    int x = meetings.best(now.parties.get(a, ITS_MILE), now.parties.get(b, ITS_MILE));
    return what == 0 ? x : meetings.worstAt(x);
  }

  /** Promise 29. */
  public int judge(int a, int b, int sheet, int x, int days) {
    if (!areParties(a, b) || !isSheet(sheet) || days < 0 || days > 9999) {
      return finding(BEYOND);
    }
    int unmet = whyNoMeeting(a, b, sheet);
    if (unmet != 0) {
      return finding(unmet);
    }
    if (x < now.parties.get(a, ITS_MILE) || x >= now.parties.get(b, ITS_MILE)) {
      return finding(BEYOND);
    }
    meetings.weigh(now, sheets, sheet, a, b);
    int worst = meetings.worstAt(x);
    return worst > days ? -1 : worst;
  }

  /** The finding that keeps two PARTIES from a MEETING, or 0. */
  private int whyNoMeeting(int a, int b, int sheet) {
    if (sheets.isMissing(sheet)) {
      return NONE;
    }
    int length = sheets.lengthOf(sheet);
    if (length == 0 || length % MONTHS != 0 || !sheets.allWithin(sheet, 0, MOST_RAIN)) {
      return KIND;
    }
    Parties parties = now.parties;
    boolean lost = parties.isLost(a) || parties.isLost(b);
    boolean facing = parties.get(a, ITS_WAY) == 1 && parties.get(b, ITS_WAY) == -1;
    if (lost || !facing || parties.get(a, ITS_MILE) >= parties.get(b, ITS_MILE)) {
      return STATE;
    }
    return 0;
  }

  // ---- days, ahead

  /** Promise 30. */
  public int days(int n) {
    if (n < 1 || n > MOST_DAYS || now.day + n > LAST_DAY) {
      return finding(BEYOND);
    }
    for (int ended = 0; ended < n; ended++) {
      now.endDay();
    }
    return now.day;
  }

  /** Promise 31. */
  public int ahead(int n, int what, int i) {
    if (n < 0 || n > MOST_DAYS || now.day + n > LAST_DAY || what < 0 || what > FACTS + 1) {
      return finding(BEYOND);
    }
    if (what < FACTS && !now.parties.has(i)) {
      return finding(BEYOND);
    }
    future.copyFrom(now);
    for (int ended = 0; ended < n; ended++) {
      future.endDay();
    }
    if (what == FACTS) {
      return future.works.wiredMiles();
    }
    return what < FACTS ? future.parties.get(i, what) : future.works.number;
  }

  /** Promise 32. */
  public int joined(int from, int to) {
    if (!isMile(from) || !isMile(to) || from > to) {
      return finding(BEYOND);
    }
    future.copyFrom(now);
    int last = Math.min(now.day + MOST_DAYS, LAST_DAY);
    for (int day = now.day; day <= last; day++) {
      if (future.works.isWiredFrom(from, to)) {
        return day;
      }
      future.endDay();
    }
    return finding(NONE);
  }

  // ---- voices, sheets, images, what is told

  /** Promise 33. */
  public int voice(int work, int act, int x) {
    if (!now.works.has(work) || act < STAND || act > TELL) {
      return finding(BEYOND);
    }
    return voices.hear(now.works.kindOf(work), work, now.works.sizeOf(work), act, x);
  }

  /** Promise 34. */
  public int trace(int i) {
    if (i < 0 || i >= voices.begun) {
      return finding(NONE);
    }
    return voices.bodyAt(i);
  }

  /** Promise 35. */
  public int sheet(int sheet, int bits, int n) {
    if (!isSheet(sheet) || bits != 0 && bits != 8 && bits != 16 && bits != 32) {
      return finding(BEYOND);
    }
    if (bits != 0 && n < 0) {
      return finding(STATE);
    }
    if (bits != 0 && n > NUMBERS) {
      return finding(BEYOND);
    }
    sheets.blank(sheet, bits, bits == 0 ? 0 : n);
    return 1;
  }

  /** Promise 36. */
  public int put(int sheet, int i, int v) {
    if (!isSheet(sheet)) {
      return finding(BEYOND);
    }
    if (sheets.isMissing(sheet)) {
      return finding(NONE);
    }
    if (!sheets.holds(sheet, i)) {
      return finding(BEYOND);
    }
    sheets.write(sheet, i, v);
    return 1;
  }

  /** Promise 37. */
  public int move(int sheet, int i, int other, int j, int n) {
    if (!isSheet(sheet) || !isSheet(other)) {
      return finding(BEYOND);
    }
    if (sheets.isMissing(sheet) || sheets.isMissing(other)) {
      return finding(NONE);
    }
    if (sheets.bitsOf(sheet) != sheets.bitsOf(other)) {
      return finding(KIND);
    }
    if (!sheets.spans(sheet, i, n) || !sheets.spans(other, j, n)) {
      return finding(BEYOND);
    }
    sheets.transfer(sheet, i, other, j, n);
    return n;
  }

  /** Promise 38. */
  public int image() {
    kept.copyFrom(now);
    keptRates.copyFrom(rates);
    images++;
    return images;
  }

  /** Promise 39. */
  public int restore() {
    if (images == 0) {
      return finding(NONE);
    }
    now.copyFrom(kept);
    rates.copyFrom(keptRates);
    return now.day;
  }

  /** Promise 40. */
  public int tell(int v) {
    if (now.waiting < 0 || now.waiting >= WAITS) {
      return finding(FULL);
    }
    now.waits[now.waiting] = v;
    now.waiting++;
    return now.waiting;
  }

  /** Promise 41. */
  public int check() {
    int wrong = 0;
    for (int mile = 0; wrong == 0 && mile < now.waiting && mile < WAITS; mile++) {
      if (now.waits[mile] != now.leakOf(mile)) {
        wrong = 1 + mile;
      }
    }
    now.waiting = 0;
    return wrong;
  }

  /** Promise 42. */
  public int count(int what) {
    switch (what) {
      case 0: return now.works.number;
      case 1: return now.works.fallen();
      case 2: return now.parties.number;
      case 3: return now.parties.lost();
      case 4: return rates.number;
      case 5: return now.day;
      case 6: return rates.taped;
      case 7: return voices.begun;
      case 8: return now.waiting;
      case 9: return now.works.wiredMiles();
      case 10: return now.works.stations();
      case 11: return now.parties.allMen();
      case 12: return now.works.storedFood();
      default: return finding(BEYOND);
    }
  }

  /** Promise 43. */
  public int found(int k) {
    if (k < 1 || k > FINDINGS) {
      return finding(BEYOND);
    }
    return findings[k];
  }

  private int finding(int k) {
    if (k > 0 && k <= FINDINGS) {
      findings[k]++;
    }
    return LOW - k;
  }

  private boolean areTwoWorks(int a, int b) {
    return now.works.has(a) && now.works.has(b) && a != b;
  }

  private boolean areStations(int a, int b) {
    return now.works.kindOf(a) == STATION && now.works.kindOf(b) == STATION;
  }

  private boolean areParties(int a, int b) {
    return now.parties.has(a) && now.parties.has(b);
  }

  private static boolean isWithin(int v, int least, int most) {
    return v >= least && v <= most;
  }

  private static boolean isMile(int mile) {
    return mile >= 0 && mile < MILES;
  }

  private static boolean isDay(int day) {
    return day >= 0 && day <= LAST_DAY;
  }

  private static boolean isUse(int use) {
    return use >= 0 && use < USES;
  }

  private static boolean isSheet(int sheet) {
    return sheet >= 0 && sheet < SHEETS;
  }

  private static boolean isPole(int kind) {
    return kind == POLE || kind == IRON || kind == STATION;
  }

  private static boolean isIron(int kind) {
    return kind == IRON || kind == STATION;
  }

  private static int kindAbove(int kind) {
    switch (kind) {
      case IRON: return POLE;
      case STATION: return IRON;
      case DEPOT: return WELL;
      default: return WORK;
    }
  }

  private static boolean isOf(int kind, int wanted) {
    int each = kind;
    for (int step = 0; step < KINDS && each != wanted; step++) {
      each = kindAbove(each);
    }
    return each == wanted;
  }

  private static int monthOf(int day) {
    return day < 0 ? 0 : day / 30 % MONTHS;
  }

  private static int effortIn(int soil, int rain) {
    switch (soil) {
      case ROCK: return 40;
      case CLAY: return 20 + 10 * rain;
      default: return 10;
    }
  }

  /** All that days change: the land, WORKS, PARTIES, and what else an IMAGE keeps beside RATES. */
  private static final class World {
    final int[] rains = new int[MONTHS];
    final int[] soils = new int[MILES];
    final int[] springs = new int[MILES];
    final int[] waits = new int[WAITS];
    final Works works = new Works();
    final Parties parties = new Parties();
    int waiting = 0;
    int reach = 40;
    int day = 0;

    World() {
      for (int month = 0; month < MONTHS; month++) {
        rains[month] = 2;
      }
    }

    void copyFrom(World other) {
      System.arraycopy(other.rains, 0, rains, 0, MONTHS);
      System.arraycopy(other.soils, 0, soils, 0, MILES);
      System.arraycopy(other.springs, 0, springs, 0, MILES);
      System.arraycopy(other.waits, 0, waits, 0, WAITS);
      works.copyFrom(other.works);
      parties.copyFrom(other.parties);
      waiting = other.waiting;
      reach = other.reach;
      day = other.day;
    }

    int soilOf(int mile) {
      return isMile(mile) ? soils[mile] : SAND;
    }

    int springOf(int mile) {
      return isMile(mile) ? springs[mile] : 0;
    }

    int rainNow() {
      int month = monthOf(day);
      return month >= 0 && month < MONTHS ? rains[month] : 0;
    }

    int effortOf(int mile) {
      return effortIn(soilOf(mile), rainNow());
    }

    /** The LEAK of a MILE, or -1 if it isn't WIRED. */
    int leakOf(int mile) {
      int least = -1;
      if (!works.isWired(mile)) {
        return least;
      }
      int rain = rainNow();
      for (int work = 0; work < works.number; work++) {
        if (works.standsAsPole(work, mile)) {
          int leak = Math.min(9, 1 + rain + (day - works.sinceOf(work)) / 30);
          if (isIron(works.kindOf(work))) {
            leak = leak / 2;
          }
          least = least < 0 ? leak : Math.min(least, leak);
        }
      }
      return least;
    }

    private int lifeOf(int work) {
      return soilOf(works.mileOf(work)) == SAND ? 60 : 120;
    }

    /** Where the SOIL was changed too late for a DAY that is gone, it is eaten when this one ends. */
    int eatenOn(int work) {
      if (works.kindOf(work) != POLE || works.isDown(work)) {
        return -1;
      }
      return Math.max(day + 1, works.sinceOf(work) + lifeOf(work));
    }

    void endDay() {
      eatPoles();
      for (int party = 0; party < parties.number; party++) {
        if (!parties.isLost(party)) {
          drinkOf(party);
          eatOf(party);
        }
      }
      for (int party = 0; party < parties.number; party++) {
        if (parties.get(party, ITS_MODE) == AT_WORK) {
          labour(party);
        }
      }
      day++;
    }

    private void eatPoles() {
      for (int work = 0; work < works.number; work++) {
        if (works.kindOf(work) == POLE && !works.isDown(work)
            && day + 1 - works.sinceOf(work) >= lifeOf(work)) {
          works.bringDown(work);
        }
      }
    }

    private void drinkOf(int party) {
      int mile = parties.get(party, ITS_MILE);
      int men = parties.get(party, ITS_MEN);
      int beasts = parties.get(party, ITS_BEASTS);
      int had = parties.get(party, ITS_DRINK);
      int filled = Math.min(had + springOf(mile) + works.drinkIn(mile), 50 * (men + beasts));
      int left = Math.max(had, filled) - men - 2 * beasts;
      parties.set(party, ITS_DRINK, Math.max(0, left));
      if (left < 0) {
        parties.more(party, beasts > 0 ? ITS_BEASTS : ITS_MEN, -1);
      }
    }

    private void eatOf(int party) {
      int men = parties.get(party, ITS_MEN);
      int had = parties.get(party, ITS_FOOD);
      int taken = works.takeFood(parties.get(party, ITS_MILE), 20 * men - had);
      int left = had + taken - men;
      parties.set(party, ITS_FOOD, Math.max(0, left));
      if (left < 0) {
        parties.more(party, ITS_MEN, -1);
      }
      if (parties.get(party, ITS_MEN) <= 0) {
        parties.set(party, ITS_MODE, LOST);
      }
    }

    private void labour(int party) {
      int mile = parties.get(party, ITS_MILE);
      if (works.isWired(mile)) {
        goOn(party, mile + parties.get(party, ITS_WAY));
      } else {
        dig(party, mile);
      }
    }

    private void goOn(int party, int mile) {
      parties.set(party, ITS_DUG, 0);
      if (isMile(mile)) {
        parties.set(party, ITS_MILE, mile);
      } else {
        parties.set(party, ITS_MODE, AT_REST);
      }
    }

    private void dig(int party, int mile) {
      parties.more(party, ITS_DUG, parties.get(party, ITS_MEN));
      boolean deep = parties.get(party, ITS_DUG) >= effortOf(mile);
      if (deep && parties.get(party, ITS_POLES) > 0 && works.hasRoom()) {
        works.add(POLE, mile, 1, day + 1);
        parties.more(party, ITS_POLES, -1);
        parties.set(party, ITS_DUG, 0);
      }
    }
  }

  /** WORKS by numbers, and what those that aren't DOWN come to in each MILE. */
  private static final class Works {
    private final int[] kinds = new int[WORKS];
    private final int[] miles = new int[WORKS];
    private final int[] sizes = new int[WORKS];
    private final int[] sinces = new int[WORKS];
    private final int[] foods = new int[WORKS];
    private final int[] downs = new int[WORKS];
    private final int[] poles = new int[MILES];
    private final int[] drinks = new int[MILES];
    private final int[] depots = new int[MILES];
    int number = 0;

    void copyFrom(Works other) {
      System.arraycopy(other.kinds, 0, kinds, 0, WORKS);
      System.arraycopy(other.miles, 0, miles, 0, WORKS);
      System.arraycopy(other.sizes, 0, sizes, 0, WORKS);
      System.arraycopy(other.sinces, 0, sinces, 0, WORKS);
      System.arraycopy(other.foods, 0, foods, 0, WORKS);
      System.arraycopy(other.downs, 0, downs, 0, WORKS);
      System.arraycopy(other.poles, 0, poles, 0, MILES);
      System.arraycopy(other.drinks, 0, drinks, 0, MILES);
      System.arraycopy(other.depots, 0, depots, 0, MILES);
      number = other.number;
    }

    boolean has(int work) {
      return work >= 0 && work < number && work < WORKS;
    }

    boolean hasRoom() {
      return number >= 0 && number < WORKS;
    }

    int add(int kind, int mile, int size, int since) {
      if (!hasRoom()) {
        return -1;
      }
      kinds[number] = kind;
      miles[number] = mile;
      sizes[number] = size;
      sinces[number] = since;
      foods[number] = 0;
      downs[number] = 0;
      number++;
      tally(number - 1, 1);
      return number - 1;
    }

    void bringDown(int work) {
      if (has(work) && downs[work] == 0) {
        downs[work] = 1;
        tally(work, -1);
      }
    }

    private void tally(int work, int sign) {
      int mile = mileOf(work);
      if (!has(work) || !isMile(mile)) {
        return;
      }
      int kind = kinds[work];
      if (isPole(kind)) {
        poles[mile] += sign;
      } else if (kind == WELL) {
        drinks[mile] += sign * sizes[work];
      } else if (kind == DEPOT) {
        depots[mile] += sign;
      }
    }

    int kindOf(int work) {
      return has(work) ? kinds[work] : WORK;
    }

    int mileOf(int work) {
      return has(work) ? miles[work] : 0;
    }

    int sizeOf(int work) {
      return has(work) ? sizes[work] : 0;
    }

    int sinceOf(int work) {
      return has(work) ? sinces[work] : 0;
    }

    int foodOf(int work) {
      return has(work) ? foods[work] : 0;
    }

    boolean isDown(int work) {
      return has(work) && downs[work] != 0;
    }

    void holdFood(int work, int food) {
      if (has(work)) {
        foods[work] = food;
      }
    }

    boolean standsAsPole(int work, int mile) {
      return has(work) && downs[work] == 0 && miles[work] == mile && isPole(kinds[work]);
    }

    boolean isWired(int mile) {
      return isMile(mile) && poles[mile] > 0;
    }

    boolean isWiredFrom(int from, int to) {
      for (int mile = from; mile <= to && mile < MILES; mile++) {
        if (!isWired(mile)) {
          return false;
        }
      }
      return true;
    }

    int wiredMiles() {
      int wired = 0;
      for (int mile = 0; mile < MILES; mile++) {
        if (poles[mile] > 0) {
          wired++;
        }
      }
      return wired;
    }

    int drinkIn(int mile) {
      return isMile(mile) ? drinks[mile] : 0;
    }

    /** Takes what is wanted from the DEPOTS of a MILE, by numbers: how much there was of it. */
    int takeFood(int mile, int wanted) {
      int taken = 0;
      if (!isMile(mile) || depots[mile] == 0) {
        return taken;
      }
      for (int work = 0; work < number && work < WORKS && taken < wanted; work++) {
        if (kinds[work] == DEPOT && downs[work] == 0 && miles[work] == mile) {
          int part = Math.min(foods[work], wanted - taken);
          foods[work] -= part;
          taken += part;
        }
      }
      return taken;
    }

    int fallen() {
      int fallen = 0;
      for (int work = 0; work < number && work < WORKS; work++) {
        fallen += downs[work];
      }
      return fallen;
    }

    int stations() {
      int stations = 0;
      for (int work = 0; work < number && work < WORKS; work++) {
        if (kinds[work] == STATION && downs[work] == 0) {
          stations++;
        }
      }
      return stations;
    }

    int storedFood() {
      int stored = 0;
      for (int work = 0; work < number && work < WORKS; work++) {
        if (kinds[work] == DEPOT && downs[work] == 0) {
          stored += foods[work];
        }
      }
      return stored;
    }
  }

  /** PARTIES by numbers, each a row of facts as partyIs() tells them. */
  private static final class Parties {
    private final int[] facts = new int[PARTIES * FACTS];
    int number = 0;

    void copyFrom(Parties other) {
      System.arraycopy(other.facts, 0, facts, 0, PARTIES * FACTS);
      number = other.number;
    }

    boolean has(int party) {
      return party >= 0 && party < number && party < PARTIES;
    }

    boolean hasRoom() {
      return number >= 0 && number < PARTIES;
    }

    int add() {
      if (!hasRoom()) {
        return -1;
      }
      for (int fact = 0; fact < FACTS; fact++) {
        facts[number * FACTS + fact] = 0;
      }
      number++;
      return number - 1;
    }

    int get(int party, int fact) {
      return has(party) && fact >= 0 && fact < FACTS ? facts[party * FACTS + fact] : 0;
    }

    void set(int party, int fact, int v) {
      if (has(party) && fact >= 0 && fact < FACTS) {
        facts[party * FACTS + fact] = v;
      }
    }

    void more(int party, int fact, int n) {
      set(party, fact, get(party, fact) + n);
    }

    boolean isLost(int party) {
      return get(party, ITS_MODE) == LOST;
    }

    int lost() {
      int lost = 0;
      for (int party = 0; party < number; party++) {
        if (isLost(party)) {
          lost++;
        }
      }
      return lost;
    }

    int allMen() {
      int men = 0;
      for (int party = 0; party < number; party++) {
        men += get(party, ITS_MEN);
      }
      return men;
    }
  }

  /** Finds ways from STATION to STATION. What it surveyed holds till the land or a WORK changes. */
  private static final class Hands {
    // Sums over the MILES ahead of each MILE, so that a stretch is one difference.
    private final int[] leaks = new int[MILES + 1];
    private final int[] gaps = new int[MILES + 1];
    private final int[] far = new int[WORKS];
    private final int[] queue = new int[WORKS];
    private final int[] stations = new int[WORKS];
    private int length = 0;

    void survey(World world) {
      for (int mile = 0; mile < MILES; mile++) {
        int leak = world.leakOf(mile);
        leaks[mile + 1] = leaks[mile] + Math.max(0, leak);
        gaps[mile + 1] = gaps[mile] + (leak < 0 ? 1 : 0);
      }
    }

    boolean canRead(World world, int a, int b) {
      Works works = world.works;
      if (works.isDown(a) || works.isDown(b)) {
        return false;
      }
      int low = Math.min(works.mileOf(a), works.mileOf(b));
      int high = Math.max(works.mileOf(a), works.mileOf(b));
      if (low == high) {
        return true;
      }
      boolean inside = isMile(low) && isMile(high);
      return inside && gaps[high + 1] == gaps[low] && leaks[high] - leaks[low + 1] <= world.reach;
    }

    /** How many STATIONS THE HANDS from a to b are; 0 if no way leads there. */
    int find(World world, int a, int b) {
      length = 0;
      survey(world);
      measure(world, b);
      if (!world.works.has(a) || far[a] == 0) {
        return 0;
      }
      int station = a;
      stations[0] = a;
      length = 1;
      for (int left = far[a] - 1; left > 0 && length < WORKS; left--) {
        station = nextHand(world, station, left);
        stations[length] = station;
        length++;
      }
      return length;
    }

    /** Tells of each STATION how many there are from it to the end, both counted; 0: no way. */
    private void measure(World world, int end) {
      for (int work = 0; work < WORKS; work++) {
        far[work] = 0;
      }
      if (!world.works.has(end)) {
        return;
      }
      far[end] = 1;
      queue[0] = end;
      int queued = 1;
      for (int i = 0; i < queued && i < WORKS; i++) {
        int station = queue[i];
        for (int work = 0; work < WORKS && queued < WORKS; work++) {
          if (far[work] == 0 && isRead(world, station, work)) {
            far[work] = distanceOf(station) + 1;
            queue[queued] = work;
            queued++;
          }
        }
      }
    }

    private int distanceOf(int work) {
      return work >= 0 && work < WORKS ? far[work] : 0;
    }

    private boolean isRead(World world, int station, int work) {
      return world.works.kindOf(work) == STATION && canRead(world, station, work);
    }

    private int nextHand(World world, int station, int left) {
      for (int work = 0; work < WORKS; work++) {
        if (far[work] == left && isRead(world, station, work)) {
          return work;
        }
      }
      return station;
    }

    int stationAt(int i) {
      return i >= 0 && i < length && i < WORKS ? stations[i] : 0;
    }
  }

  /** THE TAPE, and RATES by numbers with their TEXTS. */
  private static final class Rates {
    final int[] tape = new int[TAPE];
    final int[] texts = new int[RATES * TAPE];
    private final int[] lengths = new int[RATES];
    private final int[] uses = new int[RATES];
    private final int[] froms = new int[RATES];
    int taped = 0;
    int number = 0;

    void copyFrom(Rates other) {
      System.arraycopy(other.tape, 0, tape, 0, TAPE);
      System.arraycopy(other.texts, 0, texts, 0, RATES * TAPE);
      System.arraycopy(other.lengths, 0, lengths, 0, RATES);
      System.arraycopy(other.uses, 0, uses, 0, RATES);
      System.arraycopy(other.froms, 0, froms, 0, RATES);
      taped = other.taped;
      number = other.number;
    }

    void append(long word, int n) {
      for (int i = 0; i < n && taped >= 0 && taped < TAPE; i++) {
        tape[taped] = (int) (word >>> 8 * i & 255);
        taped++;
      }
    }

    boolean hasRoom() {
      return number >= 0 && number < RATES;
    }

    int lengthOf(int rate) {
      return rate >= 0 && rate < RATES ? lengths[rate] : 0;
    }

    int keepTape(int use, int from) {
      if (!hasRoom()) {
        return -1;
      }
      System.arraycopy(tape, 0, texts, number * TAPE, TAPE);
      lengths[number] = taped;
      uses[number] = use;
      froms[number] = from;
      taped = 0;
      number++;
      return number - 1;
    }

    int inForce(int use, int day) {
      for (int rate = number - 1; rate >= 0 && rate < RATES; rate--) {
        if (uses[rate] == use && froms[rate] <= day) {
          return rate;
        }
      }
      return -1;
    }
  }

  /** Reads a TEXT and works it out as it goes; the first byte that doesn't fit stops it. */
  private static final class Reader {
    private final int[] text = new int[TAPE];
    private int length = 0;
    private int at = 0;
    private boolean bad = false;
    private int use = 0;
    private int first = 0;
    private int second = 0;
    private int third = 0;

    void open(int[] bytes, int start, int number) {
      length = 0;
      for (int i = 0; i < number && i < TAPE && start >= 0 && start + i < bytes.length; i++) {
        text[i] = bytes[start + i];
        length = i + 1;
      }
    }

    int valueFor(int ofUse, int a, int b, int c) {
      use = ofUse;
      first = a;
      second = b;
      third = c;
      at = 0;
      bad = false;
      int v = either(0);
      if (at < length) {
        bad = true;
      }
      return v;
    }

    /** The FAULT of what was read last, or -1. */
    int fault() {
      return bad ? at : -1;
    }

    private int next() {
      return !bad && at >= 0 && at < length && at < TAPE ? text[at] : -1;
    }

    private int fail() {
      bad = true;
      return 0;
    }

    private static int truth(boolean is) {
      return is ? 1 : 0;
    }

    private int either(int open) {
      int v = both(open);
      for (int i = 0; i < TAPE && next() == '|'; i++) {
        at++;
        int right = both(open);
        v = truth(v != 0 || right != 0);
      }
      return v;
    }

    private int both(int open) {
      int v = compared(open);
      for (int i = 0; i < TAPE && next() == '&'; i++) {
        at++;
        int right = compared(open);
        v = truth(v != 0 && right != 0);
      }
      return v;
    }

    private int compared(int open) {
      int left = sum(open);
      int sign = next();
      if (sign != '<' && sign != '=' && sign != '>') {
        return left;
      }
      at++;
      int right = sum(open);
      return truth(sign == '<' ? left < right : sign == '=' ? left == right : left > right);
    }

    private int sum(int open) {
      int v = product(open);
      for (int i = 0; i < TAPE && (next() == '+' || next() == '-'); i++) {
        int sign = next();
        at++;
        int right = product(open);
        v = sign == '+' ? v + right : v - right;
      }
      return v;
    }

    private int product(int open) {
      int v = part(open);
      for (int i = 0; i < TAPE && (next() == '*' || next() == '%'); i++) {
        int sign = next();
        at++;
        int right = part(open);
        v = sign == '*' ? v * right : right == 0 ? 0 : v % right;
      }
      return v;
    }

    private int part(int open) {
      int sign = next();
      if (isDigit(sign)) {
        return numeral();
      }
      if (sign == '-' || sign == '!' || sign == '(') {
        return open >= MOST_OPEN ? fail() : opened(sign, open + 1);
      }
      int name = nameOf(sign);
      if (name < 0) {
        return fail();
      }
      at++;
      return name == 0 ? first : name == 1 ? second : third;
    }

    private int opened(int sign, int open) {
      at++;
      if (sign == '-') {
        return -part(open);
      }
      if (sign == '!') {
        return truth(part(open) == 0);
      }
      int v = either(open);
      if (next() != ')') {
        return fail();
      }
      at++;
      return v;
    }

    private static boolean isDigit(int sign) {
      return sign >= '0' && sign <= '9';
    }

    private int numeral() {
      int v = 0;
      for (int i = 0; i < MOST_DIGITS && isDigit(next()); i++) {
        v = 10 * v + next() - '0';
        at++;
      }
      return v;
    }

    private int nameOf(int sign) {
      if (sign < 0) {
        return -1;
      }
      switch (use) {
        case PRICE: return "ncm".indexOf((char) sign);
        case LATE: return "ld".indexOf((char) sign);
        default: return "ksg".indexOf((char) sign);
      }
    }
  }

  /** Packs LOADS. */
  private static final class Loads {
    // A worth and a weight as one number: more worth comes first, then less weight (at most 960).
    private static final int WORTH = 1024;

    private final int[] best = new int[(THINGS + 1) * CAPACITIES];
    private final int[] taken = new int[THINGS];
    int worth = 0;
    int weight = 0;

    /** The SHEET's numbers are looked at by the caller. */
    void pack(Sheets sheets, int sheet, int most) {
      int things = Math.min(THINGS, sheets.lengthOf(sheet) / 3);
      for (int room = 0; room <= most && room < CAPACITIES; room++) {
        best[things * CAPACITIES + room] = 0;
      }
      for (int thing = things - 1; thing >= 0; thing--) {
        int heavy = sheets.numberAt(sheet, 3 * thing);
        int dear = sheets.numberAt(sheet, 3 * thing + 1);
        int there = sheets.numberAt(sheet, 3 * thing + 2);
        for (int room = 0; room <= most && room < CAPACITIES; room++) {
          best[thing * CAPACITIES + room] = bestWith(thing, room, heavy, dear, there);
        }
      }
      choose(sheets, sheet, things, most);
    }

    private int bestFrom(int thing, int room) {
      boolean inside = isWithin(thing, 0, THINGS) && isWithin(room, 0, CAPACITIES - 1);
      return inside ? best[thing * CAPACITIES + room] : 0;
    }

    private int bestWith(int thing, int room, int heavy, int dear, int there) {
      int most = bestFrom(thing + 1, room);
      for (int n = 1; n <= there && n * heavy <= room; n++) {
        int v = n * (WORTH * dear - heavy) + bestFrom(thing + 1, room - n * heavy);
        most = Math.max(most, v);
      }
      return most;
    }

    private void choose(Sheets sheets, int sheet, int things, int most) {
      int room = most;
      worth = 0;
      weight = 0;
      for (int thing = 0; thing < things && thing < THINGS; thing++) {
        int heavy = sheets.numberAt(sheet, 3 * thing);
        int dear = sheets.numberAt(sheet, 3 * thing + 1);
        int n = sheets.numberAt(sheet, 3 * thing + 2);
        while (n > 0 && !isBest(thing, room, n, heavy, dear)) {
          n--;
        }
        taken[thing] = n;
        room -= n * heavy;
        weight += n * heavy;
        worth += n * dear;
      }
    }

    private boolean isBest(int thing, int room, int n, int heavy, int dear) {
      if (n * heavy > room) {
        return false;
      }
      int v = n * (WORTH * dear - heavy) + bestFrom(thing + 1, room - n * heavy);
      return v == bestFrom(thing, room);
    }

    int takenOf(int thing) {
      return thing >= 0 && thing < THINGS ? taken[thing] : 0;
    }
  }

  /** Weighs for each x how many days two PARTIES take at worst. */
  private static final class Meetings {
    private final int[] done = new int[MILES];
    private final int[] worst = new int[MILES];

    void weigh(World world, Sheets sheets, int sheet, int a, int b) {
      for (int x = 0; x < MILES; x++) {
        worst[x] = 0;
      }
      for (int row = 0; row < sheets.lengthOf(sheet); row += MONTHS) {
        weighRow(world, sheets, sheet, row, a, b);
      }
    }

    private void weighRow(World world, Sheets sheets, int sheet, int row, int a, int b) {
      int from = world.parties.get(a, ITS_MILE);
      int to = world.parties.get(b, ITS_MILE);
      int men = world.parties.get(a, ITS_MEN);
      int gone = 0;
      for (int mile = from; mile < to && isMile(mile); mile++) {
        int rain = sheets.numberAt(sheet, row + monthOf(world.day + gone));
        gone += daysOf(effortIn(world.soilOf(mile), rain), men);
        done[mile] = gone;
        gone++;
      }
      men = world.parties.get(b, ITS_MEN);
      gone = 0;
      for (int x = to - 1; x >= from && isMile(x); x--) {
        int rain = sheets.numberAt(sheet, row + monthOf(world.day + gone));
        gone += daysOf(effortIn(world.soilOf(x + 1), rain), men);
        worst[x] = Math.max(worst[x], Math.max(done[x], gone));
        gone++;
      }
    }

    private static int daysOf(int effort, int men) {
      return men > 0 ? (effort + men - 1) / men : 0;
    }

    int worstAt(int x) {
      return isMile(x) ? worst[x] : 0;
    }

    /** The least x of those for which the worst is least. */
    int best(int from, int to) {
      int best = from;
      for (int x = from + 1; x < to; x++) {
        if (worstAt(x) < worstAt(best)) {
          best = x;
        }
      }
      return best;
    }
  }

  /** Speaks VOICES and keeps THE TRACE. */
  private static final class Voices {
    private static final int MOST_DEEP = 40;

    // By KINDS, and in each by VOICES: the BODY that the KIND has of its own, or 0.
    private static final int[] BODIES = {
      10, 11, 12, 13,
      0, 20, 0, 21,
      30, 0, 31, 0,
      0, 0, 40, 41,
      50, 0, 51, 0,
      0, 60, 0, 61,
    };

    private final int[] bodies = new int[TRACE];
    int begun = 0;
    private int kind = 0;
    private int n = 0;
    private int w = 0;

    int hear(int ofKind, int number, int size, int act, int x) {
      begun = 0;
      kind = ofKind;
      n = number;
      w = size;
      return own(act, x, 0);
    }

    int bodyAt(int i) {
      return i >= 0 && i < begun && i < TRACE ? bodies[i] : 0;
    }

    private int own(int act, int x, int deep) {
      return say(kind, act, x, deep);
    }

    private int say(int from, int act, int x, int deep) {
      if (deep > MOST_DEEP) {
        return 0;
      }
      int body = bodyFrom(from, act);
      if (begun >= 0 && begun < TRACE) {
        bodies[begun] = body;
        begun++;
      }
      int next = deep + 1;
      switch (body) {
        case 10: return x - n;
        case 11: return own(STAND, x, next) + w;
        case 12: return own(PASS, x, next) * 2;
        case 13: return own(COST, x, next) ^ own(STAND, x, next);
        case 20: return say(WORK, PASS, x + 1, next);
        case 21: return say(WORK, TELL, x, next) - n;
        case 30: return say(POLE, STAND, x, next) * 3;
        case 31: return 0 - say(POLE, COST, x, next);
        case 40: return say(IRON, COST, x, next) + own(STAND, w, next);
        case 41: return say(IRON, TELL, x, next) ^ own(PASS, n, next);
        case 50: return say(WORK, STAND, x, next) + w;
        case 51: return say(WORK, COST, x, next) - own(STAND, 1, next);
        case 60: return say(WELL, PASS, x, next) * w;
        default: return 0 - say(WELL, TELL, x, next);
      }
    }

    private static int bodyFrom(int from, int act) {
      int each = from;
      for (int step = 0; step < KINDS; step++) {
        int place = each * VOICES + act;
        if (place >= 0 && place < BODIES.length && BODIES[place] != 0) {
          return BODIES[place];
        }
        each = kindAbove(each);
      }
      return 10;
    }
  }

  /** SHEETS; one of no bits is missing. */
  private static final class Sheets {
    private final int[] bits = new int[SHEETS];
    private final int[] lengths = new int[SHEETS];
    private final int[] numbers = new int[SHEETS * NUMBERS];

    boolean isMissing(int sheet) {
      return bitsOf(sheet) == 0;
    }

    int bitsOf(int sheet) {
      return isSheet(sheet) ? bits[sheet] : 0;
    }

    int lengthOf(int sheet) {
      return isSheet(sheet) ? lengths[sheet] : 0;
    }

    boolean holds(int sheet, int i) {
      return i >= 0 && i < NUMBERS && i < lengthOf(sheet);
    }

    int numberAt(int sheet, int i) {
      return holds(sheet, i) ? numbers[sheet * NUMBERS + i] : 0;
    }

    boolean allWithin(int sheet, int least, int most) {
      for (int i = 0; i < lengthOf(sheet); i++) {
        if (!isWithin(numberAt(sheet, i), least, most)) {
          return false;
        }
      }
      return true;
    }

    void blank(int sheet, int ofBits, int length) {
      if (!isSheet(sheet) || length < 0 || length > NUMBERS) {
        return;
      }
      bits[sheet] = ofBits;
      lengths[sheet] = length;
      for (int i = 0; i < NUMBERS; i++) {
        numbers[sheet * NUMBERS + i] = 0;
      }
    }

    void write(int sheet, int i, int v) {
      if (holds(sheet, i)) {
        int ofBits = bits[sheet];
        numbers[sheet * NUMBERS + i] = ofBits == 8 ? (byte) v : ofBits == 16 ? (short) v : v;
      }
    }

    boolean spans(int sheet, int i, int n) {
      return i >= 0 && n >= 0 && i <= lengthOf(sheet) && n <= lengthOf(sheet) - i;
    }

    void transfer(int sheet, int i, int other, int j, int n) {
      if (spans(sheet, i, n) && spans(other, j, n) && isSheet(sheet) && isSheet(other)) {
        System.arraycopy(numbers, sheet * NUMBERS + i, numbers, other * NUMBERS + j, n);
      }
    }
  }
}
