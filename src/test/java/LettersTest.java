/** Promises 1 to 3: a new object, letters, the town that is told in them. */
public final class LettersTest {
  private static final Due DUE = new Due();
  private static final String HOUSES = "hh0101;hp0101;hm0101;hi0101;hg0101;hc0101;";

  public static void main(String[] args) {
    newObject();
    letters();
    wholeTowns();
    faultsOfLetters();
    faultsOfStatements();
    weeksInATown();
    allOrNothing();
    DUE.end();
  }

  private static void town(String text, int due) {
    DUE.is("town() of '" + text + "'", due, Due.tell(new RoomToSpare(), text));
  }

  private static void newObject() {
    RoomToSpare x = new RoomToSpare();
    int[] due = {0, 0, 0, 0, 50, 0, 0, 0};
    for (int what = 0; what < due.length; what++) {
      DUE.is("new: count(" + what + ")", due[what], x.count(what));
    }
    for (int what = 11; what <= 16; what++) {
      DUE.is("new: count(" + what + ")", 0, x.count(what));
    }
    DUE.is("new: on()", -3, x.on());
  }

  private static void letters() {
    RoomToSpare x = new RoomToSpare();
    DUE.is("letter(-1)", -4, x.letter(-1));
    DUE.is("letter(256)", -6, x.letter(256));
    DUE.is("letter(least)", -4, x.letter(Integer.MIN_VALUE));
    DUE.is("letter(0)", 1, x.letter(0));
    DUE.is("letter(255)", 2, x.letter(255));
    for (int i = 3; i <= 96; i++) {
      DUE.is("letter('h')", i, x.letter('h'));
    }
    DUE.is("letter('h') behind 96", -6, x.letter('h'));
    DUE.is("letter(-1) behind 96", -4, x.letter(-1));
    DUE.is("count(7) behind 96", 96, x.count(7));
    DUE.is("count(14)", 3, x.count(14));
    DUE.is("count(16)", 2, x.count(16));
    DUE.is("town() of no sense", -1000, x.town());
    DUE.is("count(7) behind town", 0, x.count(7));
    DUE.is("letter('h') behind town", 1, x.letter('h'));
  }

  private static void wholeTowns() {
    RoomToSpare x = new RoomToSpare();
    DUE.is("town() of six", 6, Due.tell(x, HOUSES));
    for (int i = 0; i < 6; i++) {
      DUE.is("house(" + i + ", 0)", i, x.house(i, 0));
      DUE.is("house(" + i + ", 6)", 1, x.house(i, 6));
    }
    DUE.is("town() of all else", 6, Due.tell(x, "p530;d520;x4;i5;c999;w01;"));
    DUE.is("house 5 is lost by the dust told, where the inspector was told", 0, x.house(5, 6));
    DUE.is("its people, as told, are with house 0", 30, x.house(0, 3));
    DUE.is("x: house 4 is lost, with its people", 1, x.house(4, 3) - x.house(4, 6));
    DUE.is("the inspector went on", 0, x.count(5));
    DUE.is("candles: house 0 burnt 1, 2 burnt 2, 3 burnt 3, 5 burnt 1", 992, x.count(4));
    DUE.is("week", 1, x.count(1));
    DUE.is("x again: kept", 1, Due.tell(x, "x4;"));
    DUE.is("kept", 1, x.house(4, 6));
    DUE.is("x twice", 2, Due.tell(x, "x4;x4;"));
    DUE.is("as it was", 1, x.house(4, 6));
    DUE.is("c000", 1, Due.tell(x, "c000;"));
    DUE.is("no candles", 0, x.count(4));
    DUE.is("p and d on one", 2, Due.tell(x, "p007;d009;"));
    DUE.is("p", 7, x.house(0, 3));
    DUE.is("d", 9, x.house(0, 4));
    DUE.is("i", 1, Due.tell(x, "i3;"));
    DUE.is("inspector", 3, x.count(5));
    DUE.is("a house as told", 1, Due.tell(x = new RoomToSpare(), "hm9830;"));
    int[] due = {2, 9, 8, 30, 0, 0, 1};
    for (int what = 0; what < due.length; what++) {
      DUE.is("house(0, " + what + ")", due[what], x.house(0, what));
    }
  }

  private static void faultsOfLetters() {
    town("", -1000);
    town("z", -1000);
    town(";", -1000);
    town("h", -1001);
    town("hz0101;", -1001);
    town("hx0101;", -1001);
    town("hhx101;", -1002);
    town("hh0x01;", -1003);
    town("hh01x1;", -1004);
    town("hh010x;", -1005);
    town("hh0101", -1006);
    town("hh01011", -1006);
    town("hh0101;;", -1007);
    town("hh0101;h", -1008);
    town("hh0101;p0", -1009);
    town("hh0101;p01;", -1010);
    town("hh0101;p0010;", -1011);
    town("hh0101;d01;", -1010);
    town("hh0101;x;", -1008);
    town("hh0101;x00;", -1009);
    town("hh0101;i;", -1008);
    town("hh0101;i00;", -1009);
    town("c12;", -1003);
    town("c1234;", -1004);
    town("w1;", -1002);
    town("w012;", -1003);
    town("W01;", -1000);
    town(" w01;", -1000);
    town("w01; ", -1004);
    town("w0:;", -1002);
    town("w/1;", -1001);
    town("x9;z", -1003);
    town("w00;w", -1005);
  }

  private static void faultsOfStatements() {
    town("hh0001;", -2000);
    town("hh0131;", -2000);
    town("hh0130;", 1);
    town("hh9900;", 1);
    town("p000;", -2000);
    town("d000;", -2000);
    town("x0;", -2000);
    town("i0;", -2000);
    town("hh0101;p031;", -2007);
    town("hh0101;p030;", 2);
    town("hh0101;p100;", -2007);
    town("hh0101;d021;", -2007);
    town("hh0101;d020;", 2);
    town("hh0101;d100;", -2007);
    town("hh0101;x1;", -2007);
    town("hh0101;i1;", -2007);
    town("i0;hh0101;", -2000);
    town("w00;", -2000);
    town("w01;", 1);
    town("w60;", 1);
    town("w61;", -2000);
    town("c000;c999;w00;", -2010);
    town(HOUSES + "hh0101;", -2042);
    town(HOUSES + "x5;x6;", -2045);
    town("x0;w00;", -2000);
  }

  private static void weeksInATown() {
    StringBuilder text = new StringBuilder();
    for (int i = 0; i < 16; i++) {
      text.append("w60;");
    }
    RoomToSpare x = new RoomToSpare();
    DUE.is("town() to WEEK 1000", -2068, Due.tell(x, text + "w39;w01;"));
    DUE.is("count(1)", 0, x.count(1));
    DUE.is("town() to WEEK 999", 17, Due.tell(x, text + "w39;"));
    DUE.is("count(1)", 999, x.count(1));
    DUE.is("a WEEK more", -2000, Due.tell(x, "w01;"));
    x = new RoomToSpare();
    // Week 1: dust 1, 1, house 0 aired; week 2: 1, 2, house 1 aired; week 3: 2, 1, house 0 aired.
    DUE.is("two houses, three weeks", 3, Due.tell(x, "hh0901;hh0901;w03;"));
    DUE.is("dust of 0", 0, x.house(0, 4));
    DUE.is("dust of 1", 1, x.house(1, 4));
    DUE.is("candles", 44, x.count(4));
    DUE.is("week", 3, x.count(1));
    DUE.is("inspector", 1, x.count(5));
  }

  private static void allOrNothing() {
    RoomToSpare x = new RoomToSpare();
    DUE.is("fault behind much", -2016, Due.tell(x, "hh0101;c123;w02;x1;"));
    DUE.is("no house", 0, x.count(0));
    DUE.is("candles", 50, x.count(4));
    DUE.is("week", 0, x.count(1));
    DUE.is("town", 1, Due.tell(x, "hh0105;"));
    DUE.is("fault behind much", -2013, Due.tell(x, "p009;d009;x0;hh0001;"));
    DUE.is("people", 5, x.house(0, 3));
    DUE.is("dust", 0, x.house(0, 4));
    DUE.is("kept", 1, x.house(0, 6));
    for (int what = 11; what <= 16; what++) {
      DUE.is("a fault is not counted: count(" + what + ")", 0, x.count(what));
    }
    DUE.is("letters gone", 0, x.count(7));
  }
}
