/** Long runs of chosen-by-lot calls, each answer compared with the Model's. */
public final class ModelTest {
  private static final int RUNS = 300;
  private static final int CALLS = 512;
  private static final Due DUE = new Due();
  private static long seed = 20261118;

  public static void main(String[] args) {
    for (int i = 0; i < RUNS; i++) {
      run(i);
    }
    DUE.end();
  }

  private static int below(int m) {
    seed = seed * 6364136223846793005L + 1442695040888963407L;
    return (int) ((seed >>> 33) % m);
  }

  /** A number in a range; now and then one at its ends or outside of it. */
  private static int from(int least, int most) {
    switch (below(24)) {
      case 0:
        return least - 1;
      case 1:
        return most + 1;
      case 2:
        return least;
      case 3:
        return most;
      case 4:
        return new int[] {Integer.MIN_VALUE, Integer.MAX_VALUE, -2, 100}[below(4)];
      default:
        return least + below(most - least + 1);
    }
  }

  private static String two(int v) {
    return v < 10 ? "0" + v : "" + v;
  }

  private static String statement(int houses) {
    int house = below(20) == 0 ? below(10) : below(Math.max(1, houses));
    switch (below(9)) {
      case 0:
        return "p" + house + two(below(below(15) == 0 ? 40 : 31)) + ";";
      case 1:
        return "d" + house + two(below(below(15) == 0 ? 30 : 21)) + ";";
      case 2:
        return below(2) == 0 ? "x" + house + ";" : "";
      case 3:
        return "i" + house + ";";
      case 4:
        return "c" + below(4) + two(below(100)) + ";";
      case 5:
        return below(4) == 0 ? "w" + two(below(70)) + ";" : "";
      default:
        return "h" + "hpmigc".charAt(below(6)) + below(10) + (below(9) + (below(30) == 0 ? 0 : 1))
            + two(below(below(30) == 0 ? 100 : 31)) + ";";
    }
  }

  private static String text(int houses) {
    StringBuilder text = new StringBuilder();
    int much = houses == 0 ? 1 + below(14) : 1 + below(4);
    for (int i = 0; i < much; i++) {
      String more = statement(houses);
      if (text.length() + more.length() <= 96) {
        text.append(more);
      }
    }
    if (below(8) == 0 && text.length() > 0) {
      text.setLength(below(text.length()));
    }
    if (below(8) == 0 && text.length() > 0) {
      text.setCharAt(below(text.length()), (char) (below(2) == 0 ? below(256) : '0' + below(10)));
    }
    return text.toString();
  }

  private static void run(int run) {
    RoomToSpare x = new RoomToSpare();
    Model m = new Model();
    String name = "run " + run + ": ";
    int calls = 0;
    while (calls < CALLS - 100) {
      if (below(18) == 0 || (m.count(0) == 0 && below(3) > 0)) {
        String text = text(m.count(0));
        for (char c : text.toCharArray()) {
          DUE.is(name + "letter", m.letter(c), x.letter(c));
        }
        DUE.is(name + "town() of " + text, m.town(), x.town());
        calls += text.length() + 1;
      } else {
        call(name, x, m);
        calls++;
      }
    }
    for (int what = -1; what <= 18; what++) {
      DUE.is(name + "count(" + what + ")", m.count(what), x.count(what));
    }
    for (int i = 0; i < 6; i++) {
      for (int what = 0; what <= 8; what++) {
        DUE.is(name + "house(" + i + ", " + what + ")", m.house(i, what), x.house(i, what));
      }
    }
  }

  private static void call(String name, RoomToSpare x, Model m) {
    int kind = below(36);
    int h = from(0, Math.max(0, m.count(0) - 1));
    int what = from(0, below(2) == 0 ? 1 : 2);
    if (kind < 12) {
      doing(kind, h, name, x, m);
    } else if (kind < 24) {
      thinking(kind, h, what, name, x, m);
    } else {
      asking(kind, h, what, name, x, m);
    }
  }

  private static void doing(int kind, int h, String name, RoomToSpare x, Model m) {
    int people = from(0, 30);
    int dents = from(0, below(2) == 0 ? 2 : 9);
    int candles = from(0, below(2) == 0 ? 40 : 999);
    int other = from(0, 5);
    int figure = from(0, 9);
    int n = from(1, below(3) == 0 ? 60 : 4);
    int v = from(0, below(3) == 0 ? 99 : 2);
    String of = name + "(" + h + ")";
    switch (kind) {
      case 0 -> DUE.is(of + "peoples " + people, m.peoples(h, people), x.peoples(h, people));
      case 1 -> DUE.is(of + "airs", m.airs(h), x.airs(h));
      case 2 -> DUE.is(of + "dents " + dents, m.dents(h, dents), x.dents(h, dents));
      case 3 -> DUE.is(of + "keeps", m.keeps(h), x.keeps(h));
      case 4 -> DUE.is(of + "visits", m.visits(h), x.visits(h));
      case 5 -> DUE.is(name + "candles " + candles, m.candles(candles), x.candles(candles));
      case 6 -> DUE.is(of + "turn", m.turn(h, other, figure), x.turn(h, other, figure));
      case 7 -> DUE.is(name + "weeks " + n, m.weeks(n), x.weeks(n));
      case 8 -> DUE.is(name + "row " + v, m.row(v), x.row(v));
      case 9 -> DUE.is(name + "judge", m.judge(), x.judge());
      case 10 -> DUE.is(name + "image", m.image(), x.image());
      default -> DUE.is(name + "on", m.on(), x.on());
    }
  }

  private static void thinking(int kind, int h, int what, String name, RoomToSpare x, Model m) {
    int n = from(0, 60);
    int plan = from(0, 30);
    String of = name + "(" + h + ", " + what + ")";
    int back = below(8) == 0 ? -1 : h;
    switch (kind) {
      case 12 -> DUE.is(of + "houseThen " + n, m.houseThen(h, n, what), x.houseThen(h, n, what));
      case 13 -> DUE.is(of + "then " + n, m.then(n, what), x.then(n, what));
      case 14 -> DUE.is(name + "lost " + back, m.lost(back), x.lost(back));
      case 15 -> DUE.is(name + "dark", m.dark(), x.dark());
      case 16 -> DUE.is(name + "still", m.still(), x.still());
      case 17 -> DUE.is(name + "move " + plan, m.move(plan), x.move(plan));
      case 18 -> DUE.is(name + "air " + plan, m.air(plan), x.air(plan));
      case 19 -> DUE.is(of + "start " + plan, m.start(plan, what), x.start(plan, what));
      case 20 -> DUE.is(name + "buy " + plan, m.buy(plan), x.buy(plan));
      case 21 -> DUE.is(of + "bestKind", m.bestKind(h, what), x.bestKind(h, what));
      case 22 -> whatIs(h, what, name, x, m);
      default -> DUE.is(name + "lost -1", m.lost(-1), x.lost(-1));
    }
  }

  /** A ROW that fits the HOUSE, but for its last number now and then. */
  private static void whatIs(int h, int what, String name, RoomToSpare x, Model m) {
    if (below(3) > 0) {
      DUE.is(name + "clear", m.clear(), x.clear());
      int much = below(17);
      for (int i = 0; i < much && h >= 0 && h < m.count(0); i++) {
        int v = m.houseThen(h, i, 0) + (i == much - 1 && below(4) == 0 ? 1 : 0);
        DUE.is(name + "row " + v, m.row(v), x.row(v));
      }
    }
    DUE.is(name + "whatIs(" + h + ", " + what + ")", m.whatIs(h, what), x.whatIs(h, what));
  }

  private static void asking(int kind, int h, int what, String name, RoomToSpare x, Model m) {
    int n = from(0, 7);
    int t = from(2, 20);
    int plan = from(0, 30);
    int other = from(0, Math.max(0, m.count(0) - 1));
    int years = from(1, 20);
    int z = below(3) == 0 ? below(100) - 50 : below(Integer.MAX_VALUE) * (below(2) * 2 - 1);
    int five = from(0, 4);
    int eight = from(0, 8);
    int counted = from(0, 16);
    String of = name + "(" + h + ", " + what + ")";
    switch (kind) {
      case 24 -> DUE.is(of + "house " + eight, m.house(h, eight), x.house(h, eight));
      case 25 -> DUE.is(name + "spare " + five, m.spare(five), x.spare(five));
      case 26 -> DUE.is(of + "next", m.next(h), x.next(h));
      case 27 -> DUE.is(of + "run", m.run(what), x.run(what));
      case 28, 29 -> DUE.is(of + "two " + other + " " + plan,
          m.two(h, other, plan), x.two(h, other, plan));
      case 30, 31 -> DUE.is(of + "guest " + n + " " + t,
          m.guest(h, n, t, what), x.guest(h, n, t, what));
      case 32 -> DUE.is(of + "mean", m.mean(what), x.mean(what));
      case 33 -> DUE.is(of + "lots " + years + " " + z,
          m.lots(years, z, what), x.lots(years, z, what));
      case 34 -> DUE.is(name + "clear", m.clear(), x.clear());
      default -> DUE.is(name + "count " + counted, m.count(counted), x.count(counted));
    }
  }
}
