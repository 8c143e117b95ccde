import java.math.BigInteger;
import java.util.ArrayList;
import java.util.List;
import java.util.function.Function;
import java.util.regex.Matcher;
import java.util.regex.Pattern;

/**
 * The document once more, told as slowly and as differently as possible (new states for every
 * step, texts by patterns, odds by a tree of fractions): what RoomToSpare is compared with.
 */
final class Model {
  record House(char kind, int figure, int rooms, int people, int dust, int dents, boolean kept,
      boolean lets) {
    House withKind(char v) {
      return new House(v, figure, rooms, people, dust, dents, kept, lets);
    }

    House withFigure(int v) {
      return new House(kind, v, rooms, people, dust, dents, kept, lets);
    }

    House withPeople(int v) {
      return new House(kind, figure, rooms, v, dust, dents, kept, lets);
    }

    House withDust(int v) {
      return new House(kind, figure, rooms, people, v, dents, kept, lets);
    }

    House withDents(int v) {
      return new House(kind, figure, rooms, people, dust, v, kept, lets);
    }

    House withKept(boolean v) {
      return new House(kind, figure, rooms, people, dust, dents, v, lets);
    }

    House let() {
      return new House(kind, figure, rooms, people, Math.min(20, dust + 3), dents, kept, true);
    }

    int crowd() {
      int by = lets ? rooms : Math.max(1, rooms - 1);
      int crowd = 0;
      while (crowd * by < people) {
        crowd++;
      }
      return crowd;
    }

    boolean child() {
      return kept && crowd() >= from(kind);
    }

    int from(char k) {
      return switch (k) {
        case 'h' -> figure / 2 + 3;
        case 'p', 'c' -> from('h') - 1;
        case 'm' -> from('h') + 2;
        case 'i' -> 2 * from('m');
        default -> 99;
      };
    }

    int comes(char k, int week) {
      return switch (k) {
        case 'h' -> 1;
        case 'p' -> comes('h', week) + 1;
        case 'm' -> comes('h', week) + 2;
        case 'i' -> comes('m', week);
        case 'g' -> week % (2 + figure) == 0 ? 0 : comes('p', week);
        default -> 0;
      };
    }

    int burns(char k) {
      return switch (k) {
        case 'p' -> 0;
        case 'm' -> 2 * burns('h');
        case 'i' -> burns('m') + 1;
        default -> 1;
      };
    }
  }

  record State(List<House> houses, int inspector, int candles, int week) {
    State with(int i, House h) {
      List<House> others = new ArrayList<>(houses);
      others.set(i, h);
      return new State(others, inspector, candles, week);
    }

    State withInspector(int v) {
      return new State(houses, v, candles, week);
    }

    State withCandles(int v) {
      return new State(houses, inspector, v, week);
    }

    House at(int i) {
      return houses.get(i);
    }

    int size() {
      return houses.size();
    }

    int next(int i) {
      for (int j = i + 1; j < i + size(); j++) {
        if (at(j % size()).kept()) {
          return j % size();
        }
      }
      return -9;
    }

    State aWeek() {
      int w = week + 1;
      int left = candles;
      List<House> after = new ArrayList<>();
      for (House h : houses) {
        if (h.kept()) {
          int burns = h.burns(h.kind());
          int comes = h.comes(h.kind(), w);
          boolean child = h.child();
          if (left >= burns) {
            left -= burns;
          } else {
            comes = comes * 2 + 1;
          }
          h = h.withDust(Math.min(20, h.dust() + comes));
          h = child ? h.withDents(Math.min(9, h.dents() + 1)) : h;
        }
        after.add(h);
      }
      State s = new State(after, inspector, left, w);
      if (houses.isEmpty()) {
        return s;
      }
      House seen = s.at(inspector);
      if (seen.kept() && (seen.dust() > 9 || seen.dents() > 2)) {
        int to = s.next(inspector);
        if (to >= 0) {
          s = s.with(to, s.at(to).withPeople(Math.min(30, s.at(to).people() + seen.people())));
        }
        s = s.with(inspector, seen.withKept(false).withPeople(0));
      } else if (seen.kept()) {
        s = s.with(inspector, seen.withDust(0));
      }
      return s.withInspector(inspector + 1 == houses.size() ? 0 : inspector + 1);
    }

    State behind(int n) {
      return n == 0 ? this : aWeek().behind(n - 1);
    }

    int bits(Function<House, Boolean> which) {
      int bits = 0;
      for (int i = size() - 1; i >= 0; i--) {
        bits = bits * 2 + (which.apply(at(i)) ? 1 : 0);
      }
      return bits;
    }

    int kept() {
      return bits(House::kept);
    }

    int howMany() {
      return (int) houses.stream().filter(House::kept).count();
    }

    int people() {
      return houses.stream().mapToInt(House::people).sum();
    }

    int burn() {
      return houses.stream().filter(House::kept).mapToInt(h -> h.burns(h.kind())).sum();
    }

    int lost(int i) {
      for (int n = 0; n <= 60; n++) {
        if (!behind(n).at(i).kept()) {
          return n;
        }
      }
      return -9;
    }
  }

  private static final String KINDS = "hpmigc";
  private State now = new State(List.of(), 0, 50, 0);
  private State image = null;
  private String text = "";
  private final List<Integer> row = new ArrayList<>();
  private final int[] refusals = new int[7];

  private int no(int why) {
    refusals[-why]++;
    return why;
  }

  private long noLong(int why) {
    return 4000000000000000000L - no(why);
  }

  private boolean none(int house) {
    return house < 0 || house >= now.size();
  }

  int letter(int c) {
    if (c < 0) return no(-4);
    if (c > 255 || text.length() == 96) return no(-6);
    text += (char) c;
    return text.length();
  }

  private static final String[] SHAPES = {"h[hpmigc]\\d\\d\\d\\d;", "p\\d\\d\\d;", "d\\d\\d\\d;",
      "x\\d;", "i\\d;", "c\\d\\d\\d;", "w\\d\\d;"};

  int town() {
    String t = text;
    text = "";
    Pattern whole = Pattern.compile("(" + String.join("|", SHAPES) + ")+", Pattern.DOTALL);
    if (!whole.matcher(t).matches()) {
      for (int i = 0; i <= t.length(); i++) {
        Matcher m = whole.matcher(t.substring(0, i));
        if (!m.matches() && !m.hitEnd()) return -1000 - (i - 1);
      }
      return -1000 - t.length();
    }
    State s = now;
    int place = 0;
    int statements = 0;
    for (String statement : t.split(";")) {
      s = apply(s, statement);
      if (s == null) return -2000 - place;
      place += statement.length() + 1;
      statements++;
    }
    now = s;
    return statements;
  }

  private static State apply(State s, String t) {
    char first = t.charAt(0);
    if (first == 'h') {
      int rooms = t.charAt(3) - '0';
      int people = Integer.parseInt(t.substring(4));
      if (rooms == 0 || people > 30 || s.size() == 6) return null;
      List<House> more = new ArrayList<>(s.houses());
      more.add(new House(t.charAt(1), t.charAt(2) - '0', rooms, people, 0, 0, true, false));
      return new State(more, s.inspector(), s.candles(), s.week());
    }
    if (first == 'c') return s.withCandles(Integer.parseInt(t.substring(1)));
    if (first == 'w') {
      int n = Integer.parseInt(t.substring(1));
      return n < 1 || n > 60 || s.week() + n > 999 ? null : s.behind(n);
    }
    int house = t.charAt(1) - '0';
    if (house >= s.size()) return null;
    if (first == 'x') return s.with(house, s.at(house).withKept(!s.at(house).kept()));
    if (first == 'i') return s.withInspector(house);
    int v = Integer.parseInt(t.substring(2));
    if (first == 'p') return v > 30 ? null : s.with(house, s.at(house).withPeople(v));
    return v > 20 ? null : s.with(house, s.at(house).withDust(v));
  }

  int house(int house, int what) {
    if (none(house)) return no(-1);
    House h = now.at(house);
    return switch (what) {
      case 0 -> KINDS.indexOf(h.kind());
      case 1 -> h.figure();
      case 2 -> h.rooms();
      case 3 -> h.people();
      case 4 -> h.dust();
      case 5 -> h.dents();
      case 6 -> h.kept() ? 1 : 0;
      case 7 -> h.crowd();
      case 8 -> h.child() ? 1 : 0;
      default -> no(-2);
    };
  }

  int peoples(int house, int v) {
    if (none(house)) return no(-1);
    if (v < 0) return no(-4);
    if (v > 30) return no(-6);
    int was = now.at(house).people();
    now = now.with(house, now.at(house).withPeople(v));
    return was;
  }

  int airs(int house) {
    if (none(house)) return no(-1);
    if (!now.at(house).kept()) return no(-3);
    int was = now.at(house).dust();
    now = now.with(house, now.at(house).withDust(0));
    return was;
  }

  int dents(int house, int v) {
    if (none(house)) return no(-1);
    if (v < 0) return no(-4);
    if (v > 9) return no(-6);
    int was = now.at(house).dents();
    now = now.with(house, now.at(house).withDents(v));
    return was;
  }

  int keeps(int house) {
    if (none(house)) return no(-1);
    boolean kept = !now.at(house).kept();
    now = now.with(house, now.at(house).withKept(kept));
    return kept ? 1 : 0;
  }

  int visits(int house) {
    if (none(house)) return no(-1);
    int was = now.inspector();
    now = now.withInspector(house);
    return was;
  }

  int candles(int v) {
    if (v < 0) return no(-4);
    if (v > 999) return no(-6);
    int was = now.candles();
    now = now.withCandles(v);
    return was;
  }

  int turn(int house, int kind, int figure) {
    if (none(house)) return no(-1);
    if (kind < 0 || kind > 5) return no(-2);
    if (figure < 0) return no(-4);
    if (figure > 9) return no(-6);
    House h = now.at(house);
    now = now.with(house, h.withKind(KINDS.charAt(kind)).withFigure(figure));
    return 10 * KINDS.indexOf(h.kind()) + h.figure();
  }

  int weeks(int n) {
    if (n < 1) return no(-4);
    if (n > 60 || now.week() + n > 999) return no(-6);
    now = now.behind(n);
    return now.howMany();
  }

  int houseThen(int house, int n, int what) {
    if (none(house)) return no(-1);
    if (n < 0) return no(-4);
    if (n > 60) return no(-6);
    if (what < 0 || what > 2) return no(-2);
    House h = now.behind(n).at(house);
    return new int[] {h.dust(), h.dents(), h.people()}[what];
  }

  int then(int n, int what) {
    if (n < 0) return no(-4);
    if (n > 60) return no(-6);
    if (what < 0 || what > 2) return no(-2);
    State s = now.behind(n);
    return new int[] {s.kept(), s.candles(), s.size() == 0 ? -9 : s.inspector()}[what];
  }

  int lost(int house) {
    if (house == -1) {
      int best = -9;
      for (int i = 0; i < now.size(); i++) {
        boolean counts = now.at(i).kept() && now.lost(i) >= 0;
        if (counts && (best < 0 || now.lost(i) < now.lost(best))) best = i;
      }
      return best;
    }
    return none(house) ? no(-1) : now.lost(house);
  }

  int dark() {
    State s = now;
    for (int n = 0; n <= 60; n++, s = s.aWeek()) {
      if (s.candles() < s.burn()) return n;
    }
    return -9;
  }

  int still() {
    for (int n = 0; n <= 60; n++) {
      State s = now.behind(n);
      if (s.howMany() == s.behind(20).howMany()) return n;
    }
    return -9;
  }

  private static int outOf30(int n) {
    return n < 0 ? -4 : n > 30 ? -6 : 0;
  }

  int move(int n) {
    if (outOf30(n) != 0) return no(outOf30(n));
    int best = -9;
    int most = now.behind(n).howMany();
    for (int pair = 0; pair < 60; pair++) {
      int a = pair / 10;
      int b = pair % 10;
      if (a == b || none(a) || none(b) || !now.at(a).kept() || !now.at(b).kept()) continue;
      int half = now.at(a).people() / 2;
      while (now.at(b).people() + half > 30) half--;
      State s = now.with(a, now.at(a).withPeople(now.at(a).people() - half));
      s = s.with(b, s.at(b).withPeople(s.at(b).people() + half)).behind(n);
      if (s.howMany() > most) {
        most = s.howMany();
        best = pair;
      }
    }
    return best;
  }

  private static boolean allStay(State from, int n) {
    return (from.kept() & ~from.behind(n).kept()) == 0;
  }

  int air(int n) {
    if (outOf30(n) != 0) return no(outOf30(n));
    for (int fewest = 0; fewest <= now.size(); fewest++) {
      for (int bits = 0; bits < 64; bits++) {
        if (bits >> now.size() != 0 || Integer.bitCount(bits) != fewest) continue;
        State s = now;
        for (int i = 0; i < now.size(); i++) {
          if ((bits & 1 << i) != 0) s = s.with(i, s.at(i).withDust(0));
        }
        if (allStay(s, n)) return bits;
      }
    }
    return -9;
  }

  int start(int n, int what) {
    if (outOf30(n) != 0) return no(outOf30(n));
    if (what < 0 || what > 1) return no(-2);
    for (int most = 6; most >= 0; most--) {
      for (int i = 0; i < now.size(); i++) {
        if (now.withInspector(i).behind(n).howMany() == most) return what == 0 ? i : most;
      }
    }
    return -9;
  }

  int buy(int n) {
    if (outOf30(n) != 0) return no(outOf30(n));
    for (int v = 0; v <= 300; v++) {
      if (allStay(now.withCandles(v), n)) return v;
    }
    return -9;
  }

  int bestKind(int house, int what) {
    if (none(house)) return no(-1);
    if (what < 0 || what > 1) return no(-2);
    int best = 0;
    int latest = -1;
    for (int k = 0; k < 6; k++) {
      int lost = now.with(house, now.at(house).withKind(KINDS.charAt(k))).lost(house);
      if (lost == -9) return what == 0 ? k : -9;
      if (lost > latest) {
        latest = lost;
        best = k;
      }
    }
    return what == 0 ? best : latest;
  }

  int spare(int what) {
    switch (what) {
      case 0:
        int more = 0;
        for (House h : now.houses()) {
          if (h.kept()) more += h.crowd() * h.rooms() - h.people();
        }
        return more;
      case 1:
        return most(House::crowd);
      case 2:
        return most(House::dust);
      case 3:
        return now.burn();
      case 4:
        int weeks = 0;
        while (now.burn() > 0 && now.candles() >= (weeks + 1) * now.burn()) weeks++;
        return now.burn() == 0 ? 99 : weeks;
      default:
        return no(-2);
    }
  }

  private int most(Function<House, Integer> of) {
    for (int v = 30; v >= 0; v--) {
      for (int i = 0; i < now.size(); i++) {
        if (now.at(i).kept() && of.apply(now.at(i)) == v) return i;
      }
    }
    return -9;
  }

  int next(int house) {
    return none(house) ? no(-1) : now.next(house);
  }

  int run(int what) {
    if (what < 0 || what > 2) return no(-2);
    if (what == 1) return now.bits(h -> h.people() == 0);
    if (what == 2) return now.bits(House::child);
    if (now.size() > 0 && now.howMany() == 0) return now.size();
    StringBuilder ring = new StringBuilder();
    for (int i = 0; i < 2 * now.size(); i++) {
      ring.append(now.at(i % now.size()).kept() ? ' ' : 'L');
    }
    int longest = 0;
    for (String part : ring.toString().split(" ")) longest = Math.max(longest, part.length());
    return longest;
  }

  int two(int a, int b, int n) {
    if (none(a) || none(b) || a == b) return no(-1);
    if (outOf30(n) != 0) return no(outOf30(n));
    int[][] has = new int[4][2];
    for (int pair = 0; pair < 4; pair++) {
      State s = now;
      s = pair / 2 == 1 ? s.with(a, s.at(a).let()) : s;
      s = pair % 2 == 1 ? s.with(b, s.at(b).let()) : s;
      s = s.behind(n);
      has[pair][0] = (s.at(a).kept() ? 5 : 0) - s.at(a).dents() + 2 * (pair / 2);
      has[pair][1] = (s.at(b).kept() ? 5 : 0) - s.at(b).dents() + 2 * (pair % 2);
    }
    for (int pair = 0; pair < 4; pair++) {
      if (has[pair][0] >= has[pair ^ 2][0] && has[pair][1] >= has[pair ^ 1][1]) {
        return 10 * (pair / 2) + pair % 2;
      }
    }
    return -9;
  }

  /** How many of t to the power of n equal cases leave the house KEPT. */
  private static BigInteger cases(State s, int house, int n, int t) {
    House h = s.at(house);
    if (!h.kept()) return BigInteger.ZERO;
    if (n == 0) return BigInteger.ONE;
    State shown = s.with(house, h.withDents(Math.min(9, h.dents() + 1)));
    BigInteger other = BigInteger.valueOf(t - 1).multiply(cases(s.aWeek(), house, n - 1, t));
    return cases(shown.aWeek(), house, n - 1, t).add(other);
  }

  /** Cases that are lost early count for all that could follow: cases() leaves these out. */
  long guest(int house, int n, int t, int part) {
    if (none(house)) return noLong(-1);
    if (n < 0 || t < 2) return noLong(-4);
    if (n > 7 || t > 20) return noLong(-6);
    if (part < 0 || part > 1) return noLong(-2);
    BigInteger all = BigInteger.valueOf(t).pow(n);
    return part(cases(now, house, n, t), all, part);
  }

  long mean(int part) {
    if (part < 0 || part > 1) return noLong(-2);
    BigInteger below = BigInteger.valueOf(now.size() == 0 ? 1 : now.size());
    return part(BigInteger.valueOf(now.people()), below, part);
  }

  private static long part(BigInteger above, BigInteger below, int part) {
    BigInteger common = above.gcd(below);
    return (part == 0 ? above : below).divide(common).longValueExact();
  }

  int whatIs(int house, int what) {
    if (none(house)) return no(-1);
    if (what < 0 || what > 1) return no(-2);
    int bits = 0;
    for (int v = 0; v < (what == 0 ? 6 : 10); v++) {
      House h = now.at(house);
      State s = now.with(house, what == 0 ? h.withKind(KINDS.charAt(v)) : h.withFigure(v));
      boolean fits = true;
      for (int n = 0; n < row.size(); n++) fits &= s.behind(n).at(house).dust() == row.get(n);
      if (fits) bits += 1 << v;
    }
    return bits;
  }

  int row(int v) {
    if (v < 0) return no(-4);
    if (v > 99 || row.size() == 16) return no(-6);
    row.add(v);
    return row.size();
  }

  int judge() {
    int answer = -9;
    for (int i = row.size() - 1; i >= 0; i--) {
      if (i >= now.size() || now.at(i).dents() != row.get(i)) answer = i;
    }
    row.clear();
    return answer;
  }

  int clear() {
    int had = row.size();
    row.clear();
    return had;
  }

  int lots(int n, int z, int what) {
    if (n < 1) return no(-4);
    if (n > 20) return no(-6);
    if (what < 0 || what > 1) return no(-2);
    BigInteger seed = BigInteger.valueOf(z);
    int kept = 0;
    int people = 0;
    for (int year = 0; year < n; year++) {
      State s = now;
      for (int i = 0; i < s.size(); i++) {
        seed = seed.multiply(BigInteger.valueOf(1664525)).add(BigInteger.valueOf(1013904223));
        long lower = seed.mod(BigInteger.ONE.shiftLeft(31)).longValueExact();
        s = s.with(i, s.at(i).withPeople((int) (lower / 256 % 31)).withDents(0));
      }
      s = s.behind(12);
      kept += s.howMany();
      people += s.people();
    }
    return what == 0 ? kept : people;
  }

  int image() {
    image = now;
    return now.week();
  }

  int on() {
    if (image == null) return no(-3);
    now = image;
    return now.week();
  }

  int count(int what) {
    if (what >= 11 && what <= 16) return refusals[what - 10];
    return switch (what) {
      case 0 -> now.size();
      case 1 -> now.week();
      case 2 -> now.kept();
      case 3 -> now.people();
      case 4 -> now.candles();
      case 5 -> now.inspector();
      case 6 -> row.size();
      case 7 -> text.length();
      default -> -9;
    };
  }
}
