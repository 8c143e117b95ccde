/**
 * A town of houses, each with one good room that must stay empty and aired, and an inspector who
 * goes round. The document ../shared/DOC.md tells what each call answers; README.md tells how to
 * use the class.
 */
public final class RoomToSpare {
  private static final int MOST_HOUSES = 6;
  private static final int MOST_FIGURE = 9;
  private static final int MOST_PEOPLE = 30;
  private static final int MOST_DUST = 20;
  private static final int MOST_DENTS = 9;
  private static final int MOST_CANDLES = 999;
  private static final int FIRST_CANDLES = 50;
  private static final int LAST_WEEK = 999;
  private static final int MOST_WEEKS = 60;
  private static final int MOST_WEEKS_TO_PLAN = 30;
  private static final int STILL_WEEKS = 20;
  private static final int MOST_LETTERS = 96;
  private static final int MOST_LETTER = 255;
  private static final int MOST_NUMBERS = 16;
  private static final int MOST_NUMBER = 99;

  private static final int LOSING_DUST = 10;
  private static final int LOSING_DENTS = 3;
  private static final int DUST_OF_LETTING = 3;
  private static final int WORTH_OF_KEPT = 5;
  private static final int WORTH_OF_LETTING = 2;
  private static final int MOST_TO_BUY = 300;
  private static final int LASTS_FOR_EVER = 99;
  private static final int MOST_GUEST_WEEKS = 7;
  private static final int LEAST_ODDS = 2;
  private static final int MOST_ODDS = 20;
  private static final int MOST_YEARS = 20;
  private static final int WEEKS_OF_A_YEAR = 12;

  private static final int HOUSE = 0;
  private static final int POOR = 1;
  private static final int MILLER = 2;
  private static final int INN = 3;
  private static final int GHOST = 4;
  private static final int CLEAN = 5;
  private static final int KINDS = 6;
  private static final int NEVER_A_CHILD = 99;

  private static final int NOBODY = -1;
  private static final int OTHER = -2;
  private static final int STATE = -3;
  private static final int BELOW = -4;
  private static final int ROOM = -6;
  private static final int NONE = -9;
  private static final int REFUSAL_NUMBERS = 6;
  private static final long REFUSED_LONG = 4000000000000000000L;

  private static final int FAULT_OF_LETTERS = -1000;
  private static final int FAULT_OF_STATEMENTS = -2000;

  /** What a text waits for; a number above 0 is how many digits it waits for. */
  private static final int WAITS_FOR_END = 0;
  private static final int WAITS_FOR_STATEMENT = -1;
  private static final int WAITS_FOR_KIND = -2;
  private static final int BROKEN = -3;

  private final Town now = new Town();
  /** Made new from the town as it is (or from what a text tells) for each question, then used up. */
  private final Town thought = new Town();
  private final Town taken = new Town();
  private boolean imageThere = false;
  private final Row letters = new Row(MOST_LETTERS);
  private final Row told = new Row(MOST_NUMBERS);
  private final Row keptBehind = new Row(MOST_WEEKS + STILL_WEEKS + 1);
  private final int[] refusals = new int[REFUSAL_NUMBERS + 1];

  public RoomToSpare() {
    now.candles = FIRST_CANDLES;
  }

  // ---- The town in letters

  public int letter(int c) {
    if (c < 0) {
      return refuse(BELOW);
    }
    if (c > MOST_LETTER || letters.isFull()) {
      return refuse(ROOM);
    }
    letters.add(c);
    return letters.size;
  }

  public int town() {
    int broken = brokenPlace();
    int answer = broken == NONE ? readStatements() : FAULT_OF_LETTERS - broken;
    letters.drop();
    return answer;
  }

  /** How many STATEMENTS came, all of them; or the FAULT of the first that is not as it must be. */
  private int readStatements() {
    thought.become(now);
    int statements = 0;
    for (int place = 0; place < letters.size; place++) {
      if (place == 0 || letters.at(place - 1) == ';') {
        if (!comes(place)) {
          return FAULT_OF_STATEMENTS - place;
        }
        statements++;
      }
    }
    now.become(thought);
    return statements;
  }

  /** The place of the first letter with which no TOWN can go on, or NONE. */
  private int brokenPlace() {
    int waits = WAITS_FOR_STATEMENT;
    for (int place = 0; place < letters.size; place++) {
      waits = waitsBehind(waits, letters.at(place));
      if (waits == BROKEN) {
        return place;
      }
    }
    boolean whole = waits == WAITS_FOR_STATEMENT && letters.size > 0;
    return whole ? NONE : letters.size;
  }

  private static int waitsBehind(int waits, int c) {
    if (waits == WAITS_FOR_STATEMENT) {
      return waitsBehindFirst(c);
    }
    if (waits == WAITS_FOR_KIND) {
      return kindOf(c) == NONE ? BROKEN : 4;
    }
    if (waits == WAITS_FOR_END) {
      return c == ';' ? WAITS_FOR_STATEMENT : BROKEN;
    }
    return c >= '0' && c <= '9' ? waits - 1 : BROKEN;
  }

  private static int waitsBehindFirst(int c) {
    switch (c) {
      case 'h':
        return WAITS_FOR_KIND;
      case 'p':
      case 'd':
      case 'c':
        return 3;
      case 'w':
        return 2;
      case 'x':
      case 'i':
        return 1;
      default:
        return BROKEN;
    }
  }

  private static int kindOf(int c) {
    switch (c) {
      case 'h':
        return HOUSE;
      case 'p':
        return POOR;
      case 'm':
        return MILLER;
      case 'i':
        return INN;
      case 'g':
        return GHOST;
      case 'c':
        return CLEAN;
      default:
        return NONE;
    }
  }

  /** The STATEMENT at a place happens in thought; false if it is not as it must be. */
  private boolean comes(int place) {
    switch (letters.at(place)) {
      case 'h':
        return comesHouse(place);
      case 'p':
        return comesPeople(place);
      case 'd':
        return comesDust(place);
      case 'x':
        return comesTurned(place);
      case 'i':
        return comesInspector(place);
      case 'c':
        thought.candles = number(place + 1, 3);
        return true;
      case 'w':
        return comesWeeks(place);
      default:
        return false;
    }
  }

  private boolean comesHouse(int place) {
    int rooms = number(place + 3, 1);
    int people = number(place + 4, 2);
    if (thought.count >= MOST_HOUSES || rooms < 1 || people > MOST_PEOPLE) {
      return false;
    }
    thought.build(kindOf(letters.at(place + 1)), number(place + 2, 1), rooms, people);
    return true;
  }

  private boolean comesPeople(int place) {
    int house = number(place + 1, 1);
    int people = number(place + 2, 2);
    if (!thought.has(house) || people > MOST_PEOPLE) {
      return false;
    }
    thought.at(house).people = people;
    return true;
  }

  private boolean comesDust(int place) {
    int house = number(place + 1, 1);
    int dust = number(place + 2, 2);
    if (!thought.has(house) || dust > MOST_DUST) {
      return false;
    }
    thought.at(house).dust = dust;
    return true;
  }

  private boolean comesTurned(int place) {
    int house = number(place + 1, 1);
    if (!thought.has(house)) {
      return false;
    }
    thought.at(house).kept = !thought.at(house).kept;
    return true;
  }

  private boolean comesInspector(int place) {
    int house = number(place + 1, 1);
    if (!thought.has(house)) {
      return false;
    }
    thought.inspector = house;
    return true;
  }

  private boolean comesWeeks(int place) {
    int n = number(place + 1, 2);
    if (n < 1 || n > MOST_WEEKS || thought.week + n > LAST_WEEK) {
      return false;
    }
    thought.pass(n);
    return true;
  }

  private int number(int place, int digits) {
    int value = 0;
    for (int i = 0; i < digits; i++) {
      value = value * 10 + letters.at(place + i) - '0';
    }
    return value;
  }

  // ---- A house, and what becomes of it

  public int house(int house, int what) {
    if (!now.has(house)) {
      return refuse(NOBODY);
    }
    House it = now.at(house);
    switch (what) {
      case 0:
        return it.kind;
      case 1:
        return it.figure;
      case 2:
        return it.rooms;
      case 3:
        return it.people;
      case 4:
        return it.dust;
      case 5:
        return it.dents;
      case 6:
        return it.kept ? 1 : 0;
      case 7:
        return it.crowd();
      case 8:
        return it.childIsFound() ? 1 : 0;
      default:
        return refuse(OTHER);
    }
  }

  public int peoples(int house, int v) {
    if (!now.has(house)) {
      return refuse(NOBODY);
    }
    if (v < 0) {
      return refuse(BELOW);
    }
    if (v > MOST_PEOPLE) {
      return refuse(ROOM);
    }
    House it = now.at(house);
    int were = it.people;
    it.people = v;
    return were;
  }

  public int airs(int house) {
    if (!now.has(house)) {
      return refuse(NOBODY);
    }
    House it = now.at(house);
    if (!it.kept) {
      return refuse(STATE);
    }
    int was = it.dust;
    it.dust = 0;
    return was;
  }

  public int dents(int house, int v) {
    if (!now.has(house)) {
      return refuse(NOBODY);
    }
    if (v < 0) {
      return refuse(BELOW);
    }
    if (v > MOST_DENTS) {
      return refuse(ROOM);
    }
    House it = now.at(house);
    int were = it.dents;
    it.dents = v;
    return were;
  }

  public int keeps(int house) {
    if (!now.has(house)) {
      return refuse(NOBODY);
    }
    House it = now.at(house);
    it.kept = !it.kept;
    return it.kept ? 1 : 0;
  }

  public int visits(int house) {
    if (!now.has(house)) {
      return refuse(NOBODY);
    }
    int was = now.inspector;
    now.inspector = house;
    return was;
  }

  public int candles(int v) {
    if (v < 0) {
      return refuse(BELOW);
    }
    if (v > MOST_CANDLES) {
      return refuse(ROOM);
    }
    int were = now.candles;
    now.candles = v;
    return were;
  }

  public int turn(int house, int kind, int figure) {
    if (!now.has(house)) {
      return refuse(NOBODY);
    }
    if (kind < 0 || kind >= KINDS) {
      return refuse(OTHER);
    }
    if (figure < 0) {
      return refuse(BELOW);
    }
    if (figure > MOST_FIGURE) {
      return refuse(ROOM);
    }
    House it = now.at(house);
    int was = 10 * it.kind + it.figure;
    it.kind = kind;
    it.figure = figure;
    return was;
  }

  public int weeks(int n) {
    if (n < 1) {
      return refuse(BELOW);
    }
    if (n > MOST_WEEKS || now.week + n > LAST_WEEK) {
      return refuse(ROOM);
    }
    now.pass(n);
    return now.howManyKept();
  }

  // ---- In mind: what comes

  public int houseThen(int house, int n, int what) {
    if (!now.has(house)) {
      return refuse(NOBODY);
    }
    int wrong = outOf(n, 0, MOST_WEEKS);
    if (wrong != 0) {
      return refuse(wrong);
    }
    if (what < 0 || what > 2) {
      return refuse(OTHER);
    }
    thought.become(now);
    thought.pass(n);
    House it = thought.at(house);
    if (what == 0) {
      return it.dust;
    }
    return what == 1 ? it.dents : it.people;
  }

  public int then(int n, int what) {
    int wrong = outOf(n, 0, MOST_WEEKS);
    if (wrong != 0) {
      return refuse(wrong);
    }
    if (what < 0 || what > 2) {
      return refuse(OTHER);
    }
    thought.become(now);
    thought.pass(n);
    if (what == 0) {
      return thought.keptBits();
    }
    if (what == 1) {
      return thought.candles;
    }
    return thought.count == 0 ? NONE : thought.inspector;
  }

  public int lost(int house) {
    if (house == -1) {
      return firstLost();
    }
    if (!now.has(house)) {
      return refuse(NOBODY);
    }
    thought.become(now);
    return weeksTillLost(house);
  }

  private int firstLost() {
    thought.become(now);
    for (int n = 1; n <= MOST_WEEKS; n++) {
      thought.pass(1);
      for (int i = 0; i < now.count; i++) {
        if (now.at(i).kept && !thought.at(i).kept) {
          return i;
        }
      }
    }
    return NONE;
  }

  /** Behind how many WEEKS a HOUSE of the thought is LOST first, or NONE; it uses the thought up. */
  private int weeksTillLost(int house) {
    for (int n = 0; n <= MOST_WEEKS; n++) {
      if (!thought.at(house).kept) {
        return n;
      }
      thought.pass(1);
    }
    return NONE;
  }

  public int dark() {
    thought.become(now);
    for (int n = 0; n <= MOST_WEEKS; n++) {
      if (thought.candles < thought.burnsInAWeek()) {
        return n;
      }
      thought.pass(1);
    }
    return NONE;
  }

  public int still() {
    thought.become(now);
    keptBehind.drop();
    for (int n = 0; n <= MOST_WEEKS + STILL_WEEKS; n++) {
      keptBehind.add(thought.howManyKept());
      thought.pass(1);
    }
    for (int n = 0; n <= MOST_WEEKS; n++) {
      if (keptBehind.at(n) == keptBehind.at(n + STILL_WEEKS)) {
        return n;
      }
    }
    return NONE;
  }

  // ---- In mind: what had best be done

  public int move(int n) {
    int wrong = outOf(n, 0, MOST_WEEKS_TO_PLAN);
    if (wrong != 0) {
      return refuse(wrong);
    }
    thought.become(now);
    thought.pass(n);
    int most = thought.howManyKept();
    int best = NONE;
    for (int from = 0; from < now.count; from++) {
      for (int to = 0; to < now.count; to++) {
        if (from != to && now.at(from).kept && now.at(to).kept) {
          int kept = keptIfHalfMoves(from, to, n);
          if (kept > most) {
            most = kept;
            best = 10 * from + to;
          }
        }
      }
    }
    return best;
  }

  private int keptIfHalfMoves(int from, int to, int n) {
    thought.become(now);
    House left = thought.at(from);
    House entered = thought.at(to);
    int going = Math.min(left.people / 2, MOST_PEOPLE - entered.people);
    left.people -= going;
    entered.people += going;
    thought.pass(n);
    return thought.howManyKept();
  }

  public int air(int n) {
    int wrong = outOf(n, 0, MOST_WEEKS_TO_PLAN);
    if (wrong != 0) {
      return refuse(wrong);
    }
    int best = NONE;
    int fewest = MOST_HOUSES + 1;
    for (int bits = 0; bits < 1 << now.count; bits++) {
      int aired = Integer.bitCount(bits);
      if (aired < fewest && noneLostIfAired(bits, n)) {
        fewest = aired;
        best = bits;
      }
    }
    return best;
  }

  private boolean noneLostIfAired(int bits, int n) {
    thought.become(now);
    for (int i = 0; i < thought.count; i++) {
      if ((bits >> i & 1) == 1) {
        thought.at(i).dust = 0;
      }
    }
    return noneLostWithin(n);
  }

  /** Whether all that are KEPT now are so in the thought for n WEEKS; it uses the thought up. */
  private boolean noneLostWithin(int n) {
    int kept = now.keptBits();
    for (int i = 0; i < n; i++) {
      thought.pass(1);
      if (thought.keptBits() != kept) {
        return false;
      }
    }
    return true;
  }

  public int start(int n, int what) {
    int wrong = outOf(n, 0, MOST_WEEKS_TO_PLAN);
    if (wrong != 0) {
      return refuse(wrong);
    }
    if (what < 0 || what > 1) {
      return refuse(OTHER);
    }
    int best = NONE;
    int most = NONE;
    for (int i = 0; i < now.count; i++) {
      thought.become(now);
      thought.inspector = i;
      thought.pass(n);
      int kept = thought.howManyKept();
      if (kept > most) {
        most = kept;
        best = i;
      }
    }
    return what == 0 ? best : most;
  }

  public int buy(int n) {
    int wrong = outOf(n, 0, MOST_WEEKS_TO_PLAN);
    if (wrong != 0) {
      return refuse(wrong);
    }
    // Each number is tried: more CANDLES for one HOUSE can leave fewer for a later one.
    for (int v = 0; v <= MOST_TO_BUY; v++) {
      thought.become(now);
      thought.candles = v;
      if (noneLostWithin(n)) {
        return v;
      }
    }
    return NONE;
  }

  public int bestKind(int house, int what) {
    if (!now.has(house)) {
      return refuse(NOBODY);
    }
    if (what < 0 || what > 1) {
      return refuse(OTHER);
    }
    int best = NONE;
    int latest = -1;
    for (int kind = 0; kind < KINDS; kind++) {
      thought.become(now);
      thought.at(house).kind = kind;
      int weeks = weeksTillLost(house);
      int late = weeks == NONE ? MOST_WEEKS + 1 : weeks;
      if (late > latest) {
        latest = late;
        best = kind;
      }
    }
    if (what == 0) {
      return best;
    }
    return latest > MOST_WEEKS ? NONE : latest;
  }

  // ---- The town as it is

  public int spare(int what) {
    switch (what) {
      case 0:
        return now.roomForMore();
      case 1:
        return now.fullest();
      case 2:
        return now.dustiest();
      case 3:
        return now.burnsInAWeek();
      case 4:
        return lasts();
      default:
        return refuse(OTHER);
    }
  }

  private int lasts() {
    int burns = now.burnsInAWeek();
    return burns < 1 ? LASTS_FOR_EVER : now.candles / burns;
  }

  public int next(int house) {
    return now.has(house) ? now.nextKept(house) : refuse(NOBODY);
  }

  public int run(int what) {
    switch (what) {
      case 0:
        return now.longestRunOfLost();
      case 1:
        return now.emptyBits();
      case 2:
        return now.crowdedBits();
      default:
        return refuse(OTHER);
    }
  }

  // ---- Two who let the room or not

  public int two(int a, int b, int n) {
    if (!now.has(a) || !now.has(b) || a == b) {
      return refuse(NOBODY);
    }
    int wrong = outOf(n, 0, MOST_WEEKS_TO_PLAN);
    if (wrong != 0) {
      return refuse(wrong);
    }
    for (int pair = 0; pair < 4; pair++) {
      boolean aLets = pair >= 2;
      boolean bLets = pair % 2 == 1;
      boolean aStays = worth(a, aLets, b, bLets, n) >= worth(a, !aLets, b, bLets, n);
      if (aStays && worth(b, bLets, a, aLets, n) >= worth(b, !bLets, a, aLets, n)) {
        return (aLets ? 10 : 0) + (bLets ? 1 : 0);
      }
    }
    return NONE;
  }

  /** What the first HOUSE has behind n WEEKS. */
  private int worth(int house, boolean lets, int other, boolean otherLets, int n) {
    thought.become(now);
    if (lets) {
      thought.at(house).letTheRoom();
    }
    if (otherLets) {
      thought.at(other).letTheRoom();
    }
    thought.pass(n);
    House it = thought.at(house);
    return (it.kept ? WORTH_OF_KEPT : 0) - it.dents + (lets ? WORTH_OF_LETTING : 0);
  }

  // ---- Fractions

  public long guest(int house, int n, int t, int part) {
    if (!now.has(house)) {
      return refuseLong(NOBODY);
    }
    if (n < 0 || t < LEAST_ODDS) {
      return refuseLong(BELOW);
    }
    if (n > MOST_GUEST_WEEKS || t > MOST_ODDS) {
      return refuseLong(ROOM);
    }
    if (part < 0 || part > 1) {
      return refuseLong(OTHER);
    }
    long kept = 0;
    for (int shown = 0; shown < 1 << n; shown++) {
      if (isKeptWithGuests(house, n, shown)) {
        kept += power(t - 1, n - Integer.bitCount(shown));
      }
    }
    return partOf(kept, power(t, n), part);
  }

  /** Whether a HOUSE is KEPT behind n WEEKS, in those of which with a bit a stranger is shown up. */
  private boolean isKeptWithGuests(int house, int n, int shown) {
    thought.become(now);
    for (int i = 0; i < n; i++) {
      House it = thought.at(house);
      if (it.kept && (shown >> i & 1) == 1) {
        it.dent();
      }
      thought.pass(1);
    }
    return thought.at(house).kept;
  }

  private static long power(long base, int times) {
    long product = 1;
    for (int i = 0; i < times; i++) {
      product *= base;
    }
    return product;
  }

  public long mean(int part) {
    if (part < 0 || part > 1) {
      return refuseLong(OTHER);
    }
    return partOf(now.allPeople(), Math.max(1, now.count), part);
  }

  /** A part of a fraction in least terms: 0 above the line, 1 below it. */
  private static long partOf(long above, long below, int part) {
    long common = commonDivisor(below, above);
    if (common < 1) {
      return part;
    }
    return part == 0 ? above / common : below / common;
  }

  /** The greatest common divisor; a thousand steps are far more than longs can need. */
  private static long commonDivisor(long a, long b) {
    long greater = a;
    long rest = b;
    for (int i = 0; i < 1000 && rest != 0; i++) {
      long next = greater % rest;
      greater = rest;
      rest = next;
    }
    return greater;
  }

  // ---- The row of numbers

  public int whatIs(int house, int what) {
    if (!now.has(house)) {
      return refuse(NOBODY);
    }
    if (what < 0 || what > 1) {
      return refuse(OTHER);
    }
    int options = what == 0 ? KINDS : MOST_FIGURE + 1;
    int bits = 0;
    for (int option = 0; option < options; option++) {
      thought.become(now);
      if (what == 0) {
        thought.at(house).kind = option;
      } else {
        thought.at(house).figure = option;
      }
      if (dustIsAsTold(house)) {
        bits |= 1 << option;
      }
    }
    return bits;
  }

  private boolean dustIsAsTold(int house) {
    for (int n = 0; n < told.size; n++) {
      if (thought.at(house).dust != told.at(n)) {
        return false;
      }
      thought.pass(1);
    }
    return true;
  }

  public int row(int v) {
    if (v < 0) {
      return refuse(BELOW);
    }
    if (v > MOST_NUMBER || told.isFull()) {
      return refuse(ROOM);
    }
    told.add(v);
    return told.size;
  }

  public int judge() {
    int first = NONE;
    for (int i = 0; i < told.size && first == NONE; i++) {
      if (!now.has(i) || now.at(i).dents != told.at(i)) {
        first = i;
      }
    }
    told.drop();
    return first;
  }

  public int clear() {
    int had = told.size;
    told.drop();
    return had;
  }

  // ---- Years by lot

  public int lots(int n, int z, int what) {
    int wrong = outOf(n, 1, MOST_YEARS);
    if (wrong != 0) {
      return refuse(wrong);
    }
    if (what < 0 || what > 1) {
      return refuse(OTHER);
    }
    int seed = z;
    int kept = 0;
    int people = 0;
    for (int year = 0; year < n; year++) {
      thought.become(now);
      seed = drawPeople(seed);
      thought.pass(WEEKS_OF_A_YEAR);
      kept += thought.howManyKept();
      people += thought.allPeople();
    }
    return what == 0 ? kept : people;
  }

  /** PEOPLE of each HOUSE of the thought by a DRAW, no DENTS; the seed behind these DRAWS. */
  private int drawPeople(int seed) {
    int z = seed;
    for (int i = 0; i < thought.count; i++) {
      z = z * 1664525 + 1013904223;
      House it = thought.at(i);
      it.people = (z & 0x7fffffff) / 256 % (MOST_PEOPLE + 1);
      it.dents = 0;
    }
    return z;
  }

  // ---- The image, and what is counted

  public int image() {
    taken.become(now);
    imageThere = true;
    return now.week;
  }

  public int on() {
    if (!imageThere) {
      return refuse(STATE);
    }
    now.become(taken);
    return now.week;
  }

  public int count(int what) {
    switch (what) {
      case 0:
        return now.count;
      case 1:
        return now.week;
      case 2:
        return now.keptBits();
      case 3:
        return now.allPeople();
      case 4:
        return now.candles;
      case 5:
        return now.inspector;
      case 6:
        return told.size;
      case 7:
        return letters.size;
      default:
        return refused(what);
    }
  }

  private int refused(int what) {
    boolean isRefusal = what > 10 && what <= 10 + REFUSAL_NUMBERS;
    return isRefusal && what - 10 < refusals.length ? refusals[what - 10] : NONE;
  }

  private int refuse(int why) {
    int place = -why;
    if (place >= 0 && place < refusals.length) {
      refusals[place]++;
    }
    return why;
  }

  private long refuseLong(int why) {
    return REFUSED_LONG - refuse(why);
  }

  /** BELOW or ROOM for a number out of its range, else 0. */
  private static int outOf(int v, int least, int most) {
    if (v < least) {
      return BELOW;
    }
    return v > most ? ROOM : 0;
  }

  /** Numbers one behind the other, as many as there is room for. */
  private static final class Row {
    private final int[] numbers;
    int size = 0;

    Row(int most) {
      numbers = new int[Math.max(0, most)];
    }

    boolean isFull() {
      return size >= numbers.length;
    }

    void add(int v) {
      if (size >= 0 && size < numbers.length) {
        numbers[size] = v;
        size++;
      }
    }

    int at(int i) {
      return i >= 0 && i < size && i < numbers.length ? numbers[i] : NONE;
    }

    void drop() {
      size = 0;
    }
  }

  private static final class House {
    int kind = HOUSE;
    int figure = 0;
    int rooms = 1;
    int people = 0;
    int dust = 0;
    int dents = 0;
    boolean kept = false;
    /** Only in thought: THE ROOM is slept in, too. */
    boolean lets = false;

    void become(House other) {
      kind = other.kind;
      figure = other.figure;
      rooms = other.rooms;
      people = other.people;
      dust = other.dust;
      dents = other.dents;
      kept = other.kept;
      lets = other.lets;
    }

    int crowd() {
      int sleptIn = lets ? rooms : rooms - 1;
      if (sleptIn < 1) {
        sleptIn = 1;
      }
      return (people + sleptIn - 1) / sleptIn;
    }

    /** How much DUST comes in a lit WEEK. */
    int dustIn(int week) {
      switch (kind) {
        case HOUSE:
          return 1;
        case POOR:
          return 2;
        case MILLER:
        case INN:
          return 3;
        case GHOST:
          int every = figure + 2;
          return every > 0 && week % every == 0 ? 0 : 2;
        default:
          return 0;
      }
    }

    int burns() {
      switch (kind) {
        case POOR:
          return 0;
        case MILLER:
          return 2;
        case INN:
          return 3;
        default:
          return 1;
      }
    }

    /** From which CROWD on a child is found in THE ROOM. */
    int childFrom() {
      int ofHouse = figure / 2 + 3;
      int ofMiller = ofHouse + 2;
      switch (kind) {
        case HOUSE:
          return ofHouse;
        case MILLER:
          return ofMiller;
        case INN:
          return 2 * ofMiller;
        case GHOST:
          return NEVER_A_CHILD;
        default:
          return ofHouse - 1;
      }
    }

    boolean childIsFound() {
      return kept && crowd() >= childFrom();
    }

    void addDust(int more) {
      dust = Math.min(MOST_DUST, dust + more);
    }

    void dent() {
      dents = Math.min(MOST_DENTS, dents + 1);
    }

    void letTheRoom() {
      lets = true;
      addDust(DUST_OF_LETTING);
    }

    /** A WEEK in a KEPT HOUSE: how many of the CANDLES there are it burns. */
    int spendWeek(int week, int candles) {
      boolean lit = candles >= burns();
      int comes = dustIn(week);
      addDust(lit ? comes : 2 * comes + 1);
      if (childIsFound()) {
        dent();
      }
      return lit ? burns() : 0;
    }
  }

  private static final class Town {
    private final House[] houses = new House[MOST_HOUSES];
    /** Stands where no HOUSE is: LOST, without PEOPLE. */
    private final House nowhere = new House();
    int count = 0;
    int inspector = 0;
    int candles = 0;
    int week = 0;

    Town() {
      for (int i = 0; i < houses.length; i++) {
        houses[i] = new House();
      }
    }

    boolean has(int i) {
      return i >= 0 && i < count;
    }

    House at(int i) {
      if (i < 0 || i >= count || i >= houses.length || houses[i] == null) {
        return nowhere;
      }
      return houses[i];
    }

    void become(Town other) {
      count = other.count;
      inspector = other.inspector;
      candles = other.candles;
      week = other.week;
      for (int i = 0; i < count; i++) {
        at(i).become(other.at(i));
      }
    }

    /** A HOUSE more, as at first; nothing if there is no room for it. */
    void build(int kind, int figure, int rooms, int people) {
      if (count >= MOST_HOUSES) {
        return;
      }
      count++;
      House it = at(count - 1);
      it.become(nowhere);
      it.kind = kind;
      it.figure = figure;
      it.rooms = rooms;
      it.people = people;
      it.kept = true;
    }

    void pass(int weeks) {
      for (int i = 0; i < weeks; i++) {
        week++;
        for (int j = 0; j < count; j++) {
          House it = at(j);
          if (it.kept) {
            candles -= it.spendWeek(week, candles);
          }
        }
        inspect();
      }
    }

    private void inspect() {
      House it = at(inspector);
      if (it.kept && (it.dust >= LOSING_DUST || it.dents >= LOSING_DENTS)) {
        lose(it, nextKept(inspector));
      } else if (it.kept) {
        it.dust = 0;
      }
      if (count > 0) {
        inspector = (inspector + 1) % count;
      }
    }

    private void lose(House it, int to) {
      if (to != NONE) {
        House other = at(to);
        other.people = Math.min(MOST_PEOPLE, other.people + it.people);
      }
      it.people = 0;
      it.kept = false;
    }

    /** The next HOUSE KEPT behind one, round, not itself; or NONE. */
    int nextKept(int house) {
      for (int step = 1; step < count; step++) {
        int other = (house + step) % count;
        if (at(other).kept) {
          return other;
        }
      }
      return NONE;
    }

    int keptBits() {
      int bits = 0;
      for (int i = 0; i < count; i++) {
        if (at(i).kept) {
          bits |= 1 << i;
        }
      }
      return bits;
    }

    int howManyKept() {
      return Integer.bitCount(keptBits());
    }

    int emptyBits() {
      int bits = 0;
      for (int i = 0; i < count; i++) {
        if (at(i).people == 0) {
          bits |= 1 << i;
        }
      }
      return bits;
    }

    int crowdedBits() {
      int bits = 0;
      for (int i = 0; i < count; i++) {
        if (at(i).childIsFound()) {
          bits |= 1 << i;
        }
      }
      return bits;
    }

    int allPeople() {
      int people = 0;
      for (int i = 0; i < count; i++) {
        people += at(i).people;
      }
      return people;
    }

    /** CANDLES that all KEPT burn in a WEEK. */
    int burnsInAWeek() {
      int burns = 0;
      for (int i = 0; i < count; i++) {
        if (at(i).kept) {
          burns += at(i).burns();
        }
      }
      return burns;
    }

    int roomForMore() {
      int more = 0;
      for (int i = 0; i < count; i++) {
        House it = at(i);
        if (it.kept) {
          more += it.rooms * it.crowd() - it.people;
        }
      }
      return more;
    }

    int fullest() {
      int best = NONE;
      for (int i = 0; i < count; i++) {
        if (at(i).kept && (best == NONE || at(i).crowd() > at(best).crowd())) {
          best = i;
        }
      }
      return best;
    }

    int dustiest() {
      int best = NONE;
      for (int i = 0; i < count; i++) {
        if (at(i).kept && (best == NONE || at(i).dust > at(best).dust)) {
          best = i;
        }
      }
      return best;
    }

    int longestRunOfLost() {
      int longest = 0;
      for (int from = 0; from < count; from++) {
        int length = 0;
        while (length < count && !at((from + length) % count).kept) {
          length++;
        }
        longest = Math.max(longest, length);
      }
      return longest;
    }
  }
}
