/** The document's words from CROWD to the end of A WEEK, one behind the other. */
public final class EdgesOfWeekTest {
  private static final Reading DOC = new Reading("CROWD of a HOUSE:", "==== II.");
  private static final String KINDS = "hpmigc";

  public static void main(String[] args) {
    crowd();
    whatKindsTell();
    kinds();
    ghost();
    candlesAndDust();
    children();
    whenItIsLost();
    whereItsPeopleGo();
    behindTheInspector();
    DOC.end();
  }

  /** House 0 is LOST, and THE INSPECTOR is there in WEEK 1; house 1 is of a kind, with one room. */
  private static RoomToSpare one(char kind, int figure) {
    return Due.townOf("hp9900;x0;h" + kind + figure + "100;");
  }

  private static int dustOf(char kind) {
    return one(kind, 3).houseThen(1, 1, 0);
  }

  private static int dustInTheDark(char kind) {
    RoomToSpare x = one(kind, 3);
    x.candles(0);
    return x.houseThen(1, 1, 0);
  }

  private static int burnt(char kind) {
    return 50 - one(kind, 3).then(1, 1);
  }

  /** The least PEOPLE of one room by whom a child is found; 99 if there is none. */
  private static int childFrom(char kind, int figure) {
    RoomToSpare x = one(kind, figure);
    for (int people = 0; people <= 30; people++) {
      x.peoples(1, people);
      if (x.house(1, 8) == 1) {
        return people;
      }
    }
    return 99;
  }

  private static void childFrom(char kind, int... due) {
    for (int figure = 0; figure <= 9; figure++) {
      DOC.is(kind + " of FIGURE " + figure, due[figure], childFrom(kind, figure));
    }
  }

  private static void crowdIs(int rooms, int people, int due) {
    RoomToSpare x = Due.townOf("hh0" + rooms + "00;");
    x.peoples(0, people);
    DOC.is(people + " in " + rooms + " rooms", due, x.house(0, 7));
  }

  private static void crowd() {
    DOC.says("CROWD of a HOUSE: PEOPLE by ROOMS less 1");
    crowdIs(2, 30, 30);
    crowdIs(3, 8, 4);
    crowdIs(9, 24, 3);
    crowdIs(9, 0, 0);

    DOC.says("(by 1, if that is 0)");
    crowdIs(1, 0, 0);
    crowdIs(1, 1, 1);
    crowdIs(1, 30, 30);

    DOC.says("rounded up");
    crowdIs(3, 1, 1);
    crowdIs(3, 2, 1);
    crowdIs(3, 3, 2);
    crowdIs(9, 1, 1);
    crowdIs(9, 8, 1);
    crowdIs(9, 9, 2);
    crowdIs(9, 30, 4);
    crowdIs(6, 29, 6);
  }

  private static void whatKindsTell() {
    DOC.says("KINDS of HOUSES, how much DUST comes in a WEEK");
    DOC.is("dust of a house", 1, dustOf('h'));
    DOC.is("two weeks", 2, Due.townOf("hp9900;hp9900;x0;x1;hh3100;").houseThen(2, 2, 0));

    DOC.says("how many CANDLES it burns in one");
    DOC.is("a house's candles", 1, burnt('h'));
    DOC.is("three weeks", 47, one('h', 3).then(3, 1));

    DOC.says("from which CROWD on a child is found in THE ROOM (a DENT more)");
    RoomToSpare x = one('h', 0);
    int[] due = {0, 0, 0, 1, 1};
    for (int people = 0; people < due.length; people++) {
      x.peoples(1, people);
      DOC.is("a child with crowd " + people, due[people], x.house(1, 8));
      DOC.is("dents with crowd " + people, due[people], x.houseThen(1, 1, 1));
    }
  }

  private static void kinds() {
    DOC.says("h HOUSE: 1; 1; FIGURE by 2, cut, and 3");
    DOC.is("dust", 1, dustOf('h'));
    DOC.is("candles", 1, burnt('h'));
    childFrom('h', 3, 3, 4, 4, 5, 5, 6, 6, 7, 7);

    DOC.says("p POOR under HOUSE: 1 more; 0; 1 less");
    DOC.is("dust", 2, dustOf('p'));
    DOC.is("candles", 0, burnt('p'));
    childFrom('p', 2, 2, 3, 3, 4, 4, 5, 5, 6, 6);
    DOC.is("it is never in the dark", 2, dustInTheDark('p'));

    DOC.says("m MILLER under HOUSE: 2 more; twice; 2 more");
    DOC.is("dust", 3, dustOf('m'));
    DOC.is("candles", 2, burnt('m'));
    childFrom('m', 5, 5, 6, 6, 7, 7, 8, 8, 9, 9);

    DOC.says("i INN under MILLER: as a MILLER; 1 more; twice as a MILLER");
    DOC.is("dust", 3, dustOf('i'));
    DOC.is("candles", 3, burnt('i'));
    childFrom('i', 10, 10, 12, 12, 14, 14, 16, 16, 18, 18);
  }

  private static void ghost() {
    DOC.says("g GHOST under POOR: as a POOR one, but none in WEEKS 2 more than FIGURE divides");
    // A ring of four, so that house 3 is seen in WEEK 4; what is due by FIGURES 0, 1, 2, 9.
    int[][] due = {{0, 2, 2, 4}, {0, 2, 4, 4}, {0, 2, 4, 6}, {0, 2, 4, 6}};
    int[] figures = {0, 1, 2, 9};
    for (int i = 0; i < figures.length; i++) {
      RoomToSpare x = Due.townOf("hp0100;hp0100;hp0100;hg" + figures[i] + "100;x0;x1;x2;");
      for (int n = 0; n < 4; n++) {
        DOC.is("FIGURE " + figures[i] + " behind " + n, due[i][n], x.houseThen(3, n, 0));
      }
    }
    // THE INSPECTOR is at house 0 in even WEEKS, so that house 1 is seen in odd ones.
    int[][] weeks = {{9, 1, 2}, {9, 10, 0}, {9, 11, 2}, {9, 21, 0}, {7, 8, 0}, {7, 9, 2},
        {0, 999, 0}};
    for (int[] of : weeks) {
      RoomToSpare x = one('g', of[0]);
      while (x.count(1) < of[1]) {
        x.candles(999);
        x.weeks(Math.min(60, of[1] - x.count(1)));
      }
      x.airs(1);
      x.visits(0);
      DOC.is("FIGURE " + of[0] + " in the WEEK behind " + of[1], of[2], x.houseThen(1, 1, 0));
    }

    DOC.says("as a HOUSE");
    DOC.is("candles", 1, burnt('g'));

    DOC.says("never (99)");
    childFrom('g', 99, 99, 99, 99, 99, 99, 99, 99, 99, 99);
    RoomToSpare x = one('g', 0);
    x.peoples(1, 30);
    DOC.is("dents of 30 in one room", 0, x.houseThen(1, 60, 1));

    DOC.says("c CLEAN under HOUSE: 0; as a HOUSE; 1 less");
    DOC.is("dust", 0, dustOf('c'));
    DOC.is("candles", 1, burnt('c'));
    childFrom('c', 2, 2, 3, 3, 4, 4, 5, 5, 6, 6);

    DOC.says("Where it is not told as above them");
    int[] dark = {3, 2, 7, 7, 5, 1};
    for (int kind = 0; kind < KINDS.length(); kind++) {
      DOC.is("in the dark " + KINDS.charAt(kind), dark[kind], dustInTheDark(KINDS.charAt(kind)));
      DOC.is("a week of crowd 30 in " + KINDS.charAt(kind), kind == 4 ? 0 : 1, dentsOf30(kind));
    }
  }

  private static int dentsOf30(int kind) {
    RoomToSpare x = one(KINDS.charAt(kind), 9);
    x.peoples(1, 30);
    return x.houseThen(1, 1, 1);
  }

  private static void candlesAndDust() {
    DOC.says("A WEEK: WEEK is 1 more");
    RoomToSpare x = one('h', 0);
    x.weeks(1);
    DOC.is("count(1)", 1, x.count(1));
    x.weeks(2);
    DOC.is("count(1)", 3, x.count(1));
    DOC.is("a ghost of FIGURE 0 in the first WEEK", 2, one('g', 0).houseThen(1, 1, 0));

    DOC.says("HOUSES by numbers, each KEPT");
    x = Due.townOf("hp9900;x0;hm9100;hh9100;c002;w01;");
    DOC.is("the miller is first: dust", 3, x.house(1, 4));
    DOC.is("none for the house", 3, x.house(2, 4));
    x = Due.townOf("hp9900;x0;hh9100;hm9100;c002;w01;");
    DOC.is("the house is first: dust", 1, x.house(1, 4));
    DOC.is("1 is too few for the miller", 7, x.house(2, 4));
    x = Due.townOf("hp9900;hh0130;hh9100;x0;x1;w01;");
    DOC.is("a lost one has no dust", 0, x.house(1, 4));
    DOC.is("nor dents", 0, x.house(1, 5));
    DOC.is("nor burns it candles", 49, x.count(4));

    DOC.says("if CANDLES are what it burns, or more, they are less by that, and DUST comes");
    int[][] few = {{'m', 2, 3, 0}, {'m', 3, 3, 1}, {'i', 3, 3, 0}, {'i', 4, 3, 1}, {'h', 1, 1, 0},
        {'p', 0, 2, 0}, {'c', 1, 0, 0}};
    for (int[] of : few) {
      candlesDue((char) of[0], of[1], of[2], of[3]);
    }

    DOC.says("else twice as much DUST comes and 1");
    int[][] tooFew = {{'m', 1, 7, 1}, {'m', 0, 7, 0}, {'i', 2, 7, 2}, {'h', 0, 3, 0},
        {'g', 0, 5, 0}, {'c', 0, 1, 0}};
    for (int[] of : tooFew) {
      candlesDue((char) of[0], of[1], of[2], of[3]);
    }
    x = one('g', 0);
    x.weeks(1);
    x.airs(1);
    x.candles(0);
    x.visits(0);
    DOC.is("twice none and 1", 1, x.houseThen(1, 1, 0));

    DOC.says("(20 at most)");
    int[][] much = {{'i', 50, 17, 20}, {'i', 50, 18, 20}, {'i', 50, 20, 20}, {'i', 0, 13, 20},
        {'i', 0, 12, 19}, {'i', 0, 14, 20}, {'i', 0, 20, 20}, {'p', 0, 17, 19}};
    for (int[] of : much) {
      x = one((char) of[0], 9);
      Due.tell(x, "d1" + of[2] + ";");
      x.candles(of[1]);
      String call = (char) of[0] + " of dust " + of[2] + ", candles " + of[1];
      DOC.is(call, of[3], x.houseThen(1, 1, 0));
    }
  }

  private static void candlesDue(char kind, int candles, int dust, int left) {
    RoomToSpare x = one(kind, 9);
    x.candles(candles);
    x.weeks(1);
    DOC.is("dust of " + kind + " with " + candles, dust, x.house(1, 4));
    DOC.is("left by " + kind + " of " + candles, left, x.count(4));
  }

  private static void children() {
    DOC.says("if CROWD is what it is told from, or more: DENTS 1 more");
    int[][] due = {{2, 0}, {3, 1}, {4, 1}, {30, 1}};
    for (int[] of : due) {
      RoomToSpare x = one('h', 0);
      x.peoples(1, of[0]);
      x.weeks(1);
      DOC.is("dents of crowd " + of[0], of[1], x.house(1, 5));
    }
    RoomToSpare x = one('h', 0);
    x.peoples(1, 3);
    x.candles(0);
    DOC.is("in the dark, too", 1, x.houseThen(1, 1, 1));

    DOC.says("(9 at most)");
    x.dents(1, 8);
    DOC.is("behind 8", 9, x.houseThen(1, 1, 1));
    x.dents(1, 9);
    DOC.is("behind 9", 9, x.houseThen(1, 1, 1));
  }

  /** Three houses, each with 5 people, behind a WEEK in which house 0 is seen. */
  private static RoomToSpare seen(String dust, int dents) {
    RoomToSpare x = Due.townOf("hh9905;hh9905;hh9905;d0" + dust + ";");
    x.dents(0, dents);
    x.weeks(1);
    return x;
  }

  private static void whenItIsLost() {
    DOC.says("Then THE INSPECTOR: at his HOUSE, KEPT, with DUST 10 or more");
    DOC.is("9 with this WEEK's", 7, seen("08", 0).count(2));
    DOC.is("10 with this WEEK's", 6, seen("09", 0).count(2));
    DOC.is("20", 6, seen("20", 0).count(2));
    RoomToSpare x = Due.townOf("hh9905;hh9905;d120;w01;");
    DOC.is("at no other", 3, x.count(2));
    x = Due.townOf("hh9905;hh9905;d020;x0;w01;");
    DOC.is("not a lost one: its people stay", 5, x.house(0, 3));
    DOC.is("the other's, too", 5, x.house(1, 3));

    DOC.says("or DENTS 3 or more: it is LOST");
    DOC.is("2", 7, seen("00", 2).count(2));
    DOC.is("3", 6, seen("00", 3).count(2));
    DOC.is("9", 6, seen("00", 9).count(2));
    DOC.is("its DENTS stay", 3, seen("00", 3).house(0, 5));
    x = Due.townOf("hh0103;hh9905;");
    x.dents(0, 2);
    DOC.is("3 with this WEEK's", 1, x.weeks(1));
    DOC.is("house(0, 6)", 0, x.house(0, 6));
    x = Due.townOf("hh9905;hh9905;");
    x.dents(1, 9);
    DOC.is("at no other", 2, x.weeks(1));
  }

  private static void whereItsPeopleGo() {
    DOC.says("its PEOPLE go to the next one KEPT behind it");
    RoomToSpare x = seen("09", 0);
    DOC.is("house(1, 3)", 10, x.house(1, 3));
    DOC.is("house(2, 3)", 5, x.house(2, 3));
    x = Due.townOf("hh9905;hh9905;hh9905;hh9905;d109;x2;i1;w01;");
    DOC.is("not to a lost one", 5, x.house(2, 3));
    DOC.is("but behind it", 10, x.house(3, 3));
    DOC.is("nor ahead", 5, x.house(0, 3));
    x = Due.townOf("hh9905;hh9905;hh9905;d209;x0;i2;w01;");
    DOC.is("round", 10, x.house(1, 3));

    DOC.says("(30 at most; who has no room goes away");
    int[][] due = {{24, 29}, {25, 30}, {26, 30}, {30, 30}};
    for (int[] of : due) {
      x = Due.townOf("hh9905;hh99" + of[0] + ";hh9900;d009;w01;");
      DOC.is("5 to " + of[0], of[1], x.house(1, 3));
      DOC.is("not further", 0, x.house(2, 3));
      DOC.is("all", of[1], x.count(3));
    }

    DOC.says("none: all do)");
    x = Due.townOf("hh9905;hh9907;d009;x1;w01;");
    DOC.is("house(1, 3)", 7, x.house(1, 3));
    DOC.is("count(3)", 7, x.count(3));
    DOC.is("of one", 0, Due.townOf("hh9905;d009;w01;").count(3));

    DOC.says("it has none");
    DOC.is("house(0, 3)", 0, seen("09", 0).house(0, 3));
    DOC.is("with none KEPT", 0, x.house(0, 3));
  }

  private static void behindTheInspector() {
    DOC.says("KEPT with less: DUST is 0 (it is aired)");
    RoomToSpare x = seen("08", 2);
    DOC.is("house(0, 4)", 0, x.house(0, 4));
    DOC.is("dents stay", 2, x.house(0, 5));
    DOC.is("people stay", 5, x.house(0, 3));
    DOC.is("the next is not aired", 1, x.house(1, 4));
    DOC.is("one just lost is not aired", 10, seen("09", 0).house(0, 4));
    DOC.is("one lost by dents neither", 9, seen("08", 3).house(0, 4));
    DOC.is("one lost ahead neither", 9, Due.townOf("hh9900;d009;x0;w01;").house(0, 4));

    DOC.says("Then he is at the next HOUSE round");
    DOC.is("from one KEPT", 1, seen("00", 0).count(5));
    DOC.is("from one just LOST", 1, seen("09", 0).count(5));
    DOC.is("from one LOST ahead, to one LOST", 1,
        Due.townOf("hh9900;hh9900;hh9900;x0;x1;w01;").count(5));
    DOC.is("from the last", 0, Due.townOf("hh9900;hh9900;hh9900;i2;w01;").count(5));
    DOC.is("one alone", 0, Due.townOf("hh9900;w01;").count(5));
    DOC.is("seven WEEKS in three", 1, Due.townOf("hh9900;hh9900;hh9900;w07;").count(5));
  }
}
