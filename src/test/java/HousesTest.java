/** Promises 4 to 11: what a house is, and what is done to it now. */
public final class HousesTest {
  private static final Due DUE = new Due();

  public static void main(String[] args) {
    house();
    crowds();
    children();
    peoples();
    airs();
    dents();
    keeps();
    visits();
    candles();
    turn();
    DUE.end();
  }

  private static void house() {
    RoomToSpare x = Due.townOf("hi7525;hc0100;d112;");
    x.dents(0, 4);
    int[] due = {3, 7, 5, 25, 0, 4, 1, 7, 0};
    for (int what = 0; what < due.length; what++) {
      DUE.is("house(0, " + what + ")", due[what], x.house(0, what));
    }
    int[] other = {5, 0, 1, 0, 12, 0, 1, 0, 0};
    for (int what = 0; what < other.length; what++) {
      DUE.is("house(1, " + what + ")", other[what], x.house(1, what));
    }
    DUE.is("house(2, 0)", -1, x.house(2, 0));
    DUE.is("house(-1, 0)", -1, x.house(-1, 0));
    DUE.is("house(6, 0)", -1, x.house(6, 0));
    DUE.is("house(least, 99)", -1, x.house(Integer.MIN_VALUE, 99));
    DUE.is("house(greatest, 0)", -1, x.house(Integer.MAX_VALUE, 0));
    DUE.is("house(0, 9)", -2, x.house(0, 9));
    DUE.is("house(0, -1)", -2, x.house(0, -1));
    DUE.is("count(11)", 5, x.count(11));
    DUE.is("count(12)", 2, x.count(12));
  }

  private static void crowds() {
    int[][] roomsPeopleCrowd = {{1, 0, 0}, {1, 5, 5}, {2, 5, 5}, {3, 5, 3}, {3, 4, 2}, {3, 6, 3},
        {9, 30, 4}, {9, 24, 3}, {9, 25, 4}, {9, 1, 1}, {2, 30, 30}, {4, 0, 0}};
    for (int[] of : roomsPeopleCrowd) {
      RoomToSpare x = Due.townOf("hh0" + of[0] + "00;");
      x.peoples(0, of[1]);
      DUE.is("crowd of " + of[1] + " in " + of[0] + " rooms", of[2], x.house(0, 7));
    }
  }

  private static void children() {
    // The least crowd by figures 0 .. 9 for h, p, m, i, c; in a house of one room crowd is people.
    int[][] from = {
        {3, 3, 4, 4, 5, 5, 6, 6, 7, 7},
        {2, 2, 3, 3, 4, 4, 5, 5, 6, 6},
        {5, 5, 6, 6, 7, 7, 8, 8, 9, 9},
        {10, 10, 12, 12, 14, 14, 16, 16, 18, 18},
        {99, 99, 99, 99, 99, 99, 99, 99, 99, 99},
        {2, 2, 3, 3, 4, 4, 5, 5, 6, 6}};
    RoomToSpare x = Due.townOf("hh0100;");
    for (int kind = 0; kind < 6; kind++) {
      for (int figure = 0; figure <= 9; figure++) {
        x.turn(0, kind, figure);
        String of = "child in kind " + kind + " figure " + figure + " with crowd ";
        int least = Math.min(30, from[kind][figure]);
        x.peoples(0, least);
        DUE.is(of + least, kind == 4 ? 0 : 1, x.house(0, 8));
        x.peoples(0, least - 1);
        DUE.is(of + (least - 1), 0, x.house(0, 8));
      }
      x = Due.townOf("hh0100;");
    }
    x = Due.townOf("hh0130;x0;");
    DUE.is("no child in a lost house", 0, x.house(0, 8));
    DUE.is("but its crowd", 30, x.house(0, 7));
  }

  private static void peoples() {
    RoomToSpare x = Due.townOf("hh0107;");
    DUE.is("peoples(0, 30)", 7, x.peoples(0, 30));
    DUE.is("peoples(0, 31)", -6, x.peoples(0, 31));
    DUE.is("peoples(0, -1)", -4, x.peoples(0, -1));
    DUE.is("peoples(1, -1)", -1, x.peoples(1, -1));
    DUE.is("peoples(-1, 5)", -1, x.peoples(-1, 5));
    DUE.is("peoples(0, 0)", 30, x.peoples(0, 0));
    x.keeps(0);
    DUE.is("peoples(0, 3) of a lost one", 0, x.peoples(0, 3));
    DUE.is("house(0, 3)", 3, x.house(0, 3));
    DUE.is("count(11)", 2, x.count(11));
    DUE.is("count(14)", 1, x.count(14));
    DUE.is("count(16)", 1, x.count(16));
  }

  private static void airs() {
    RoomToSpare x = Due.townOf("hh0107;hh0100;d112;");
    DUE.is("airs(1)", 12, x.airs(1));
    DUE.is("airs(1) again", 0, x.airs(1));
    DUE.is("airs(2)", -1, x.airs(2));
    DUE.is("airs(-1)", -1, x.airs(-1));
    Due.tell(x, "d020;x0;");
    DUE.is("airs(0) of a lost one", -3, x.airs(0));
    DUE.is("its dust stays", 20, x.house(0, 4));
    DUE.is("count(13)", 1, x.count(13));
  }

  private static void dents() {
    RoomToSpare x = Due.townOf("hh0107;");
    DUE.is("dents(0, 9)", 0, x.dents(0, 9));
    DUE.is("dents(0, 10)", -6, x.dents(0, 10));
    DUE.is("dents(0, -1)", -4, x.dents(0, -1));
    DUE.is("dents(1, 10)", -1, x.dents(1, 10));
    DUE.is("dents(0, 0)", 9, x.dents(0, 0));
    DUE.is("house(0, 5)", 0, x.house(0, 5));
  }

  private static void keeps() {
    RoomToSpare x = Due.townOf("hh0107;hh0100;");
    DUE.is("keeps(0)", 0, x.keeps(0));
    DUE.is("people stay", 7, x.house(0, 3));
    DUE.is("count(2)", 2, x.count(2));
    DUE.is("keeps(0) again", 1, x.keeps(0));
    DUE.is("keeps(2)", -1, x.keeps(2));
    DUE.is("keeps(-1)", -1, x.keeps(-1));
    DUE.is("count(2)", 3, x.count(2));
  }

  private static void visits() {
    RoomToSpare x = Due.townOf("hh0107;hh0100;hh0100;x1;");
    DUE.is("visits(2)", 0, x.visits(2));
    DUE.is("visits(1), a lost one", 2, x.visits(1));
    DUE.is("visits(3)", -1, x.visits(3));
    DUE.is("visits(-1)", -1, x.visits(-1));
    DUE.is("count(5)", 1, x.count(5));
  }

  private static void candles() {
    RoomToSpare x = new RoomToSpare();
    DUE.is("candles(999)", 50, x.candles(999));
    DUE.is("candles(1000)", -6, x.candles(1000));
    DUE.is("candles(-1)", -4, x.candles(-1));
    DUE.is("candles(0)", 999, x.candles(0));
    DUE.is("count(4)", 0, x.count(4));
  }

  private static void turn() {
    RoomToSpare x = Due.townOf("hg7107;");
    DUE.is("turn(0, 5, 9)", 47, x.turn(0, 5, 9));
    DUE.is("turn(0, 0, 0)", 59, x.turn(0, 0, 0));
    DUE.is("turn(0, 6, -1)", -2, x.turn(0, 6, -1));
    DUE.is("turn(0, -1, 0)", -2, x.turn(0, -1, 0));
    DUE.is("turn(0, 0, -1)", -4, x.turn(0, 0, -1));
    DUE.is("turn(0, 0, 10)", -6, x.turn(0, 0, 10));
    DUE.is("turn(1, 6, 10)", -1, x.turn(1, 6, 10));
    DUE.is("turn(0, 1, 3)", 0, x.turn(0, 1, 3));
    DUE.is("house(0, 0)", 1, x.house(0, 0));
    DUE.is("house(0, 1)", 3, x.house(0, 1));
    DUE.is("people stay", 7, x.house(0, 3));
  }
}
