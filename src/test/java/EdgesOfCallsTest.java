import java.util.function.LongSupplier;

/** The document's words from THE IMAGE to the last promise, one behind the other. */
public final class EdgesOfCallsTest {
  private static final Reading DOC = new Reading("THE IMAGE: all", "How the state is held");
  private static final long NO = 4000000000000000000L;
  private static final int LEAST = Integer.MIN_VALUE;
  private static final int GREATEST = Integer.MAX_VALUE;
  private static RoomToSpare x;

  public static void main(String[] args) {
    image();
    fractions();
    refusals();
    aNewObject();
    letters();
    house();
    numbersOfAHouse();
    turnsOfAHouse();
    numbersOfTheTown();
    inMind();
    plans();
    asked();
    fractionsAndRow();
    lotsAndImage();
    count();
    DOC.end();
    calls();
  }

  /** Three HOUSES, of which house 2 is LOST, a ROW, a letter and an image. */
  private static void some() {
    x = Due.townOf("hm7905;hh0203;hi1100;d105;c077;w02;x2;");
    x.dents(0, 2);
    x.row(7);
    x.image();
    x.letter('w');
  }

  private static String all() {
    StringBuilder all = new StringBuilder();
    for (int what = 0; what <= 7; what++) {
      all.append(' ').append(x.count(what));
    }
    for (int i = 0; i < x.count(0); i++) {
      for (int what = 0; what <= 8; what++) {
        all.append(' ').append(x.house(i, what));
      }
    }
    return all.toString();
  }

  /** A call is refused with a number: it is counted, and nothing else changes. */
  private static void no(String call, int due, LongSupplier made) {
    refused(call, due, due, made);
  }

  private static void noLong(String call, int due, LongSupplier made) {
    refused(call, due, NO - due, made);
  }

  private static void refused(String call, int why, long answer, LongSupplier made) {
    int[] before = new int[7];
    for (int i = 1; i <= 6; i++) {
      before[i] = x.count(10 + i);
    }
    String as = all();
    DOC.is(call, answer, made.getAsLong());
    DOC.is(call + " alters nothing", 1, as.equals(all()) ? 1 : 0);
    for (int i = 1; i <= 6; i++) {
      DOC.is(call + ": count(1" + i + ")", before[i] + (i == -why ? 1 : 0), x.count(10 + i));
    }
  }

  private static void image() {
    DOC.says("THE IMAGE: all that there is");
    some();
    String as = all();
    Due.tell(x, "01;p009;d009;x0;x2;i0;c001;hh0101;w09;");
    x.dents(1, 9);
    x.turn(2, 0, 0);
    x.letter('c');
    x.on();
    DOC.is("all is as then", 1, as.equals(all()) ? 1 : 0);
    DOC.is("count(0)", 3, x.count(0));

    DOC.says("but it, the ROW, letters, REFUSALS");
    DOC.is("the image is there yet", 2, x.on());
    x.row(8);
    x.letter('d');
    x.airs(2);
    int refusals = x.count(13);
    x.on();
    DOC.is("ROW", 2, x.count(6));
    DOC.is("letters", 2, x.count(7));
    DOC.is("REFUSALS", refusals, x.count(13));
    x.clear();
    x.town();
    x.on();
    DOC.is("ROW", 0, x.count(6));
    DOC.is("letters", 0, x.count(7));

    DOC.says("ON from it all is as then");
    x.image();
    x.weeks(5);
    x.weeks(5);
    DOC.is("on()", 2, x.on());
    DOC.is("count(1)", 2, x.count(1));
    x.weeks(5);
    x.image();
    x.weeks(5);
    DOC.is("from the last that is taken", 7, x.on());
    DOC.is("count(1)", 7, x.count(1));
  }

  private static void fractions() {
    DOC.says("Fractions are told in least terms");
    RoomToSpare of = Due.townOf("hh9908;hh9906;hh9904;hh9902;");
    DOC.is("20 by 4", 5, of.mean(0));
    DOC.is("20 by 4", 1, of.mean(1));
    of = Due.townOf("hh9906;hh9904;hh9902;hh9902;");
    DOC.is("14 by 4", 7, of.mean(0));
    DOC.is("14 by 4", 2, of.mean(1));
    of = Due.townOf("hh9900;");
    of.dents(0, 1);
    DOC.is("8 by 9", 8, of.guest(0, 2, 3, 0));
    DOC.is("20 by 27", 20, of.guest(0, 3, 3, 0));
    DOC.is("4 by 8", 1, of.guest(0, 3, 2, 0));
    DOC.is("4 by 8", 2, of.guest(0, 3, 2, 1));
    DOC.is("8 by 8", 1, of.guest(0, 1, 8, 1));

    DOC.says("0 as 0 by 1");
    of.dents(0, 3);
    DOC.is("0 by 8", 0, of.guest(0, 3, 2, 0));
    DOC.is("0 by 8", 1, of.guest(0, 3, 2, 1));
    of = Due.townOf("hh9900;hh9900;hh9900;");
    DOC.is("0 by 3", 0, of.mean(0));
    DOC.is("0 by 3", 1, of.mean(1));
  }

  private static void refusals() {
    DOC.says("REFUSALS (the call answers the number");
    some();
    no("candles(-1)", -4, () -> x.candles(-1));

    DOC.says("the first that fits in the order in which it tells them");
    no("turn(3, 6, -1)", -1, () -> x.turn(3, 6, -1));
    no("turn(0, 6, -1)", -2, () -> x.turn(0, 6, -1));
    no("turn(0, 6, 10)", -2, () -> x.turn(0, 6, 10));
    no("houseThen(0, -1, 3)", -4, () -> x.houseThen(0, -1, 3));
    no("houseThen(0, 61, 3)", -6, () -> x.houseThen(0, 61, 3));
    noLong("guest(0, 8, 1, 2)", -4, () -> x.guest(0, 8, 1, 2));
    noLong("guest(0, 8, 2, 2)", -6, () -> x.guest(0, 8, 2, 2));

    DOC.says("nothing changes but how many there were)");
    no("weeks(61)", -6, () -> x.weeks(61));
    no("weeks(61) again", -6, () -> x.weeks(61));
    DOC.is("on()", 2, x.on());

    DOC.says("-1 NOBODY: no such HOUSE, one twice");
    no("next(3)", -1, () -> x.next(3));
    no("next(-1)", -1, () -> x.next(-1));
    no("next(6)", -1, () -> x.next(6));
    no("next(least)", -1, () -> x.next(LEAST));
    no("next(greatest)", -1, () -> x.next(GREATEST));
    no("two(1, 1, 0)", -1, () -> x.two(1, 1, 0));

    DOC.says("-2 OTHER: what, KIND");
    no("spare(5)", -2, () -> x.spare(5));
    no("spare(least)", -2, () -> x.spare(LEAST));
    no("spare(greatest)", -2, () -> x.spare(GREATEST));
    no("turn(0, 6, 0)", -2, () -> x.turn(0, 6, 0));
    no("turn(0, -1, 0)", -2, () -> x.turn(0, -1, 0));

    DOC.says("-3 STATE: it is not as it must be");
    no("airs(2)", -3, () -> x.airs(2));

    DOC.says("-4 BELOW: a number below the least");
    no("peoples(0, -1)", -4, () -> x.peoples(0, -1));
    no("peoples(0, least)", -4, () -> x.peoples(0, LEAST));
    DOC.is("the least", 5, x.peoples(0, 0));

    DOC.says("-6 ROOM: a number above the greatest, no room");
    no("peoples(0, 31)", -6, () -> x.peoples(0, 31));
    no("peoples(0, greatest)", -6, () -> x.peoples(0, GREATEST));
    DOC.is("the greatest", 0, x.peoples(0, 30));
    while (x.count(6) < 16) {
      x.row(1);
    }
    no("row(1)", -6, () -> x.row(1));

    DOC.says("Of longs they are 4000000000000000000 less them (-1 as 4000000000000000001)");
    DOC.is("-1", 4000000000000000001L, x.guest(3, 0, 2, 0));
    DOC.is("-2", 4000000000000000002L, x.mean(2));
    DOC.is("-4", 4000000000000000004L, x.guest(0, -1, 2, 0));
    DOC.is("-6", 4000000000000000006L, x.guest(0, 8, 2, 0));
  }

  private static void aNewObject() {
    DOC.says("No HOUSES, CANDLES 50, WEEK 0");
    x = new RoomToSpare();
    int[] due = {0, 0, 0, 0, 50, 0, 0, 0};
    for (int what = 0; what < due.length; what++) {
      DOC.is("count(" + what + ")", due[what], x.count(what));
    }
    for (int what = 11; what <= 16; what++) {
      DOC.is("count(" + what + ")", 0, x.count(what));
    }
    no("house(0, 0)", -1, () -> x.house(0, 0));
  }

  private static void letters() {
    DOC.says("A letter (0 .. 255) comes: how many there are");
    x = new RoomToSpare();
    DOC.is("letter(0)", 1, x.letter(0));
    DOC.is("letter(255)", 2, x.letter(255));
    DOC.is("count(7)", 2, x.count(7));

    DOC.says("-4; -6 (255; 96, too)");
    no("letter(-1)", -4, () -> x.letter(-1));
    no("letter(least)", -4, () -> x.letter(LEAST));
    no("letter(256)", -6, () -> x.letter(256));
    no("letter(greatest)", -6, () -> x.letter(GREATEST));
    for (int i = 3; i <= 96; i++) {
      DOC.is("letter", i, x.letter(' '));
    }
    no("the 97th", -6, () -> x.letter(0));
    no("the 97th below", -4, () -> x.letter(-1));
    no("the 97th above", -6, () -> x.letter(256));

    DOC.says("The letters become a TOWN, and are no more (with a FAULT neither)");
    DOC.is("town()", -1000, x.town());
    DOC.is("count(7)", 0, x.count(7));
    DOC.is("town()", -1000, x.town());
    DOC.is("town of kind 2", -2000, Due.tell(x, "w00;"));
    DOC.is("count(7)", 0, x.count(7));
    DOC.is("a TOWN", 1, Due.tell(x, "w01;"));
    DOC.is("count(7)", 0, x.count(7));

    DOC.says("how many STATEMENTS");
    DOC.is("six", 6, Due.tell(x, "hh0100;x0;x0;i0;c001;w01;"));
    DOC.is("24", 24, Due.tell(x, "w01;".repeat(24)));

    DOC.says("the FAULT (nothing is counted)");
    DOC.is("kind 1", -1003, Due.tell(x, "c99;"));
    DOC.is("kind 2", -2005, Due.tell(x, "c999;x1;"));
    for (int what = 11; what <= 16; what++) {
      int due = what == 14 ? 3 : what == 16 ? 4 : 0;
      DOC.is("count(" + what + ")", due, x.count(what));
    }
  }

  private static void house() {
    DOC.says("Of a HOUSE: 0 KIND (0 h, 1 p, 2 m, 3 i, 4 g, 5 c)");
    x = Due.townOf("hh0100;hp0100;hm0100;hi0100;hg0100;hc0100;");
    for (int i = 0; i < 6; i++) {
      DOC.is("house(" + i + ", 0)", i, x.house(i, 0));
    }

    DOC.says("1 FIGURE, 2 ROOMS, 3 PEOPLE, 4 DUST, 5 DENTS");
    x = Due.townOf("hp1423;d005;hc9130;");
    x.dents(0, 6);
    int[] due = {1, 1, 4, 23, 5, 6};
    for (int what = 0; what < due.length; what++) {
      DOC.is("house(0, " + what + ")", due[what], x.house(0, what));
    }

    DOC.says("6 1 KEPT, 0, 7 CROWD, 8 whether a child is found");
    DOC.is("house(0, 6)", 1, x.house(0, 6));
    DOC.is("house(0, 7)", 8, x.house(0, 7));
    DOC.is("house(0, 8)", 1, x.house(0, 8));
    x.keeps(0);
    DOC.is("lost: house(0, 6)", 0, x.house(0, 6));
    DOC.is("lost: house(0, 7)", 8, x.house(0, 7));
    DOC.is("lost: house(0, 8)", 0, x.house(0, 8));

    DOC.says("-1; -2");
    no("house(2, 0)", -1, () -> x.house(2, 0));
    no("house(-1, 9)", -1, () -> x.house(-1, 9));
    no("house(0, 9)", -2, () -> x.house(0, 9));
    no("house(0, -1)", -2, () -> x.house(0, -1));
  }

  private static void numbersOfAHouse() {
    some();
    DOC.says("PEOPLE become v: how many there were");
    DOC.is("peoples(0, 30)", 5, x.peoples(0, 30));
    DOC.is("peoples(0, 0)", 30, x.peoples(0, 0));
    DOC.is("peoples(2, 4), lost", 0, x.peoples(2, 4));
    DOC.is("house(0, 3)", 0, x.house(0, 3));
    DOC.is("house(2, 3)", 4, x.house(2, 3));

    DOC.says("-1; -4; -6 30");
    no("peoples(3, -1)", -1, () -> x.peoples(3, -1));
    no("peoples(-1, 31)", -1, () -> x.peoples(-1, 31));
    no("peoples(0, -1)", -4, () -> x.peoples(0, -1));
    no("peoples(0, 31)", -6, () -> x.peoples(0, 31));

    DOC.says("DUST becomes 0: what it was");
    Due.tell(x, "01;d020;");
    DOC.is("airs(0)", 20, x.airs(0));
    DOC.is("house(0, 4)", 0, x.house(0, 4));
    DOC.is("airs(0)", 0, x.airs(0));

    DOC.says("-1; -3 it is LOST");
    Due.tell(x, "d209;");
    no("airs(3)", -1, () -> x.airs(3));
    no("airs(-1)", -1, () -> x.airs(-1));
    no("airs(2)", -3, () -> x.airs(2));
    x.keeps(2);
    DOC.is("airs(2), kept", 9, x.airs(2));

    DOC.says("DENTS become v: what there were");
    DOC.is("dents(0, 9)", 2, x.dents(0, 9));
    DOC.is("dents(0, 0)", 9, x.dents(0, 0));
    x.keeps(2);
    DOC.is("dents(2, 1), lost", 0, x.dents(2, 1));
    DOC.is("house(2, 5)", 1, x.house(2, 5));

    DOC.says("-1; -4; -6 9");
    no("dents(3, -1)", -1, () -> x.dents(3, -1));
    no("dents(-1, 10)", -1, () -> x.dents(-1, 10));
    no("dents(0, -1)", -4, () -> x.dents(0, -1));
    no("dents(0, 10)", -6, () -> x.dents(0, 10));
  }

  private static void turnsOfAHouse() {
    some();
    DOC.says("KEPT, or LOST: 1, 0 (PEOPLE stay)");
    DOC.is("keeps(0)", 0, x.keeps(0));
    DOC.is("house(0, 3)", 5, x.house(0, 3));
    DOC.is("house(1, 3)", 3, x.house(1, 3));
    DOC.is("keeps(0)", 1, x.keeps(0));
    DOC.is("keeps(2)", 1, x.keeps(2));
    DOC.is("count(2)", 7, x.count(2));

    DOC.says("-1");
    no("keeps(3)", -1, () -> x.keeps(3));
    no("keeps(-1)", -1, () -> x.keeps(-1));

    DOC.says("THE INSPECTOR is there: where he was");
    DOC.is("visits(0)", 2, x.visits(0));
    DOC.is("visits(0)", 0, x.visits(0));
    DOC.is("visits(2)", 0, x.visits(2));
    DOC.is("count(5)", 2, x.count(5));

    DOC.says("-1");
    no("visits(3)", -1, () -> x.visits(3));
    no("visits(-1)", -1, () -> x.visits(-1));

    DOC.says("CANDLES become v: what there were");
    x = new RoomToSpare();
    DOC.is("candles(999)", 50, x.candles(999));
    DOC.is("candles(0)", 999, x.candles(0));
    DOC.is("candles(1)", 0, x.candles(1));

    DOC.says("-4; -6 999");
    no("candles(-1)", -4, () -> x.candles(-1));
    no("candles(1000)", -6, () -> x.candles(1000));

    DOC.says("KIND, FIGURE become others: 10 times the KIND and the FIGURE it had");
    some();
    DOC.is("turn(0, 5, 9)", 27, x.turn(0, 5, 9));
    DOC.is("turn(0, 0, 0)", 59, x.turn(0, 0, 0));
    DOC.is("turn(2, 1, 5), lost", 31, x.turn(2, 1, 5));
    DOC.is("house(2, 0)", 1, x.house(2, 0));
    DOC.is("house(2, 1)", 5, x.house(2, 1));

    DOC.says("-1; -2; -4; -6 9");
    no("turn(3, 6, 10)", -1, () -> x.turn(3, 6, 10));
    no("turn(-1, -1, -1)", -1, () -> x.turn(-1, -1, -1));
    no("turn(0, 6, -1)", -2, () -> x.turn(0, 6, -1));
    no("turn(0, -1, 10)", -2, () -> x.turn(0, -1, 10));
    no("turn(0, 5, -1)", -4, () -> x.turn(0, 5, -1));
    no("turn(0, 5, 10)", -6, () -> x.turn(0, 5, 10));
  }

  private static void numbersOfTheTown() {
    DOC.says("n WEEKS (1 .. 60) go by: how many are KEPT");
    x = Due.townOf("hc9900;hc9900;hc9900;d109;c999;");
    DOC.is("weeks(1)", 3, x.weeks(1));
    x.keeps(2);
    DOC.is("weeks(60)", 2, x.weeks(60));
    DOC.is("count(1)", 61, x.count(1));

    DOC.says("-4; -6 (60; WEEK above 999)");
    no("weeks(0)", -4, () -> x.weeks(0));
    no("weeks(least)", -4, () -> x.weeks(LEAST));
    no("weeks(61)", -6, () -> x.weeks(61));
    no("weeks(greatest)", -6, () -> x.weeks(GREATEST));
    for (int i = 0; i < 15; i++) {
      x.weeks(60);
    }
    no("weeks(39) to 1000", -6, () -> x.weeks(39));
    DOC.is("weeks(37) to 998", 2, x.weeks(37));
    no("weeks(2) to 1000", -6, () -> x.weeks(2));
    DOC.is("weeks(1) to 999", 2, x.weeks(1));
    no("weeks(1) to 1000", -6, () -> x.weeks(1));
    no("weeks(0)", -4, () -> x.weeks(0));
    DOC.is("count(1)", 999, x.count(1));
  }

  private static void inMind() {
    x = Due.townOf("hh0103;hh9901;d104;");
    DOC.says("DUST (what 0), DENTS (1), PEOPLE (2)");
    int[] due = {0, 1, 3, 5, 0, 1};
    for (int i = 0; i < due.length; i++) {
      DOC.is("houseThen(" + i / 3 + ", 1, " + i % 3 + ")", due[i], x.houseThen(i / 3, 1, i % 3));
    }

    DOC.says("-1; -4; -6 60; -2");
    no("houseThen(2, -1, 3)", -1, () -> x.houseThen(2, -1, 3));
    no("houseThen(-1, 61, 3)", -1, () -> x.houseThen(-1, 61, 3));
    no("houseThen(0, -1, 3)", -4, () -> x.houseThen(0, -1, 3));
    no("houseThen(0, 61, -1)", -6, () -> x.houseThen(0, 61, -1));
    no("houseThen(0, 60, 3)", -2, () -> x.houseThen(0, 60, 3));
    no("houseThen(0, 0, -1)", -2, () -> x.houseThen(0, 0, -1));

    DOC.says("KEPT (what 0, bits), CANDLES (1), where THE INSPECTOR is (2; -9)");
    DOC.is("then(3, 0)", 2, x.then(3, 0));
    DOC.is("then(3, 1)", 44, x.then(3, 1));
    DOC.is("then(3, 2)", 1, x.then(3, 2));
    DOC.is("no HOUSES", -9, new RoomToSpare().then(3, 2));

    DOC.says("-4; -6 60; -2");
    no("then(-1, 3)", -4, () -> x.then(-1, 3));
    no("then(61, -1)", -6, () -> x.then(61, -1));
    no("then(60, 3)", -2, () -> x.then(60, 3));
    no("then(0, -1)", -2, () -> x.then(0, -1));

    DOC.says("LOST; -9; FIRST (house -1; -9)");
    DOC.is("lost(0)", 3, x.lost(0));
    DOC.is("lost(-1)", 0, x.lost(-1));
    x.peoples(0, 0);
    DOC.is("lost(0), never", -9, x.lost(0));
    DOC.is("lost(-1), none", -9, x.lost(-1));
    DOC.is("count(11): -9 is none refused", 2, x.count(11));

    DOC.says("-1");
    no("lost(2)", -1, () -> x.lost(2));
    no("lost(-2)", -1, () -> x.lost(-2));
    no("lost(least)", -1, () -> x.lost(LEAST));

    DOC.says("DARK; -9");
    DOC.is("dark()", 25, x.dark());
    x.turn(0, 1, 9);
    x.turn(1, 1, 9);
    DOC.is("dark(), never", -9, x.dark());

    DOC.says("STILL; -9");
    DOC.is("still()", 0, x.still());
    DOC.is("never still", -9,
        Due.townOf("hg2309;hc0605;hh9700;hc1600;hc9200;hc6202;c179;i5;").still());
  }

  private static void plans() {
    x = Due.townOf("hh0103;hh9900;");
    DOC.says("MOVE; -9");
    DOC.is("move(3)", 1, x.move(3));
    DOC.is("move(2)", -9, x.move(2));
    DOC.says("-4; -6 30");
    no("move(-1)", -4, () -> x.move(-1));
    no("move(31)", -6, () -> x.move(31));

    DOC.says("AIR (bits; -9)");
    DOC.is("air(2)", 0, x.air(2));
    DOC.is("air(3)", -9, x.air(3));
    DOC.says("-4; -6 30");
    no("air(-1)", -4, () -> x.air(-1));
    no("air(31)", -6, () -> x.air(31));

    DOC.says("START: which (what 0; -9), how many (1; -9)");
    DOC.is("start(3, 0)", 1, x.start(3, 0));
    DOC.is("start(3, 1)", 2, x.start(3, 1));
    DOC.is("no HOUSES", -9, new RoomToSpare().start(3, 0));
    DOC.is("no HOUSES", -9, new RoomToSpare().start(3, 1));
    DOC.says("-4; -6 30; -2");
    no("start(-1, 2)", -4, () -> x.start(-1, 2));
    no("start(31, -1)", -6, () -> x.start(31, -1));
    no("start(30, 2)", -2, () -> x.start(30, 2));
    no("start(0, -1)", -2, () -> x.start(0, -1));

    DOC.says("BUY; -9");
    DOC.is("buy(2)", 0, x.buy(2));
    DOC.is("buy(3)", -9, x.buy(3));
    DOC.says("-4; -6 30");
    no("buy(-1)", -4, () -> x.buy(-1));
    no("buy(31)", -6, () -> x.buy(31));

    DOC.says("TURN: the KIND (what 0), behind how many WEEKS (1; -9)");
    x.candles(999);
    DOC.is("bestKind(0, 0)", 2, x.bestKind(0, 0));
    DOC.is("bestKind(0, 1)", -9, x.bestKind(0, 1));
    x.keeps(0);
    DOC.is("bestKind(0, 1), lost", 0, x.bestKind(0, 1));
    DOC.says("-1; -2");
    no("bestKind(2, 2)", -1, () -> x.bestKind(2, 2));
    no("bestKind(-1, 0)", -1, () -> x.bestKind(-1, 0));
    no("bestKind(0, 2)", -2, () -> x.bestKind(0, 2));
    no("bestKind(0, -1)", -2, () -> x.bestKind(0, -1));
  }

  private static void asked() {
    x = Due.townOf("hm0203;hh0309;d103;c030;");
    DOC.says("SPARE (what 0), FULLEST (1; -9), DUSTIEST (2; -9), BURN (3), LASTS (4)");
    int[] due = {9, 1, 1, 3, 10};
    for (int what = 0; what < due.length; what++) {
      DOC.is("spare(" + what + ")", due[what], x.spare(what));
    }
    DOC.is("no HOUSES", -9, new RoomToSpare().spare(1));
    DOC.is("no HOUSES", -9, new RoomToSpare().spare(2));
    DOC.says("-2");
    no("spare(5)", -2, () -> x.spare(5));
    no("spare(-1)", -2, () -> x.spare(-1));

    DOC.says("NEXT; -9");
    DOC.is("next(0)", 1, x.next(0));
    x.keeps(1);
    DOC.is("next(0)", -9, x.next(0));
    DOC.says("-1");
    no("next(2)", -1, () -> x.next(2));
    no("next(-1)", -1, () -> x.next(-1));

    DOC.says("RUN (what 0), EMPTY (1, bits), CROWDED (2, bits)");
    x.peoples(1, 0);
    x.peoples(0, 30);
    DOC.is("run(0)", 1, x.run(0));
    DOC.is("run(1)", 2, x.run(1));
    DOC.is("run(2)", 1, x.run(2));
    DOC.says("-2");
    no("run(3)", -2, () -> x.run(3));
    no("run(-1)", -2, () -> x.run(-1));

    DOC.says("TWO; -9");
    DOC.is("two(0, 1, 0)", 11, x.two(0, 1, 0));
    DOC.is("none", -9, Due.townOf("hi5526;hp3106;hm9401;d005;c107;").two(0, 2, 22));
    DOC.says("-1 either (one twice, too); -4; -6 30");
    no("two(2, 0, -1)", -1, () -> x.two(2, 0, -1));
    no("two(-1, 0, 31)", -1, () -> x.two(-1, 0, 31));
    no("two(0, 2, 31)", -1, () -> x.two(0, 2, 31));
    no("two(0, -1, -1)", -1, () -> x.two(0, -1, -1));
    no("two(0, 0, -1)", -1, () -> x.two(0, 0, -1));
    no("two(2, 2, 0)", -1, () -> x.two(2, 2, 0));
    no("two(0, 1, -1)", -4, () -> x.two(0, 1, -1));
    no("two(1, 0, 31)", -6, () -> x.two(1, 0, 31));
  }

  private static void fractionsAndRow() {
    some();
    DOC.says("GUEST, part 0 above, 1 below the line");
    DOC.is("1 by 1", 1, x.guest(0, 0, 2, 0));
    x.visits(0);
    DOC.is("2 by 3", 2, x.guest(0, 1, 3, 0));
    DOC.is("2 by 3", 3, x.guest(0, 1, 3, 1));
    DOC.says("Refused as told: -1; -4 (n; t below 2); -6 (7; 20); -2");
    noLong("guest(3, -1, 21, 2)", -1, () -> x.guest(3, -1, 21, 2));
    noLong("guest(-1, 0, 2, 0)", -1, () -> x.guest(-1, 0, 2, 0));
    noLong("guest(0, -1, 21, 2)", -4, () -> x.guest(0, -1, 21, 2));
    noLong("guest(0, 8, 1, 2)", -4, () -> x.guest(0, 8, 1, 2));
    noLong("guest(0, 0, 0, 0)", -4, () -> x.guest(0, 0, 0, 0));
    noLong("guest(0, 0, least, 0)", -4, () -> x.guest(0, 0, LEAST, 0));
    noLong("guest(0, 8, 2, 2)", -6, () -> x.guest(0, 8, 2, 2));
    noLong("guest(0, greatest, 2, 2)", -6, () -> x.guest(0, GREATEST, 2, 2));
    noLong("guest(0, 7, 21, -1)", -6, () -> x.guest(0, 7, 21, -1));
    noLong("guest(0, 7, 20, 2)", -2, () -> x.guest(0, 7, 20, 2));
    noLong("guest(0, 0, 2, -1)", -2, () -> x.guest(0, 0, 2, -1));

    DOC.says("MEAN");
    DOC.is("8 by 3", 8, x.mean(0));
    DOC.is("8 by 3", 3, x.mean(1));
    DOC.says("Refused as told: -2");
    noLong("mean(2)", -2, () -> x.mean(2));
    noLong("mean(-1)", -2, () -> x.mean(-1));

    DOC.says("WHAT IT IS by the ROW (it stays): KINDS (what 0, bits), FIGURES (1)");
    x.clear();
    x.row(6);
    x.row(6);
    DOC.is("whatIs(2, 0), lost", 63, x.whatIs(2, 0));
    DOC.is("whatIs(2, 1), lost", 1023, x.whatIs(2, 1));
    DOC.is("count(6)", 2, x.count(6));
    DOC.says("-1; -2");
    no("whatIs(3, 2)", -1, () -> x.whatIs(3, 2));
    no("whatIs(-1, 0)", -1, () -> x.whatIs(-1, 0));
    no("whatIs(0, 2)", -2, () -> x.whatIs(0, 2));
    no("whatIs(0, -1)", -2, () -> x.whatIs(0, -1));

    DOC.says("A number more of the ROW (0 .. 99): how many");
    DOC.is("row(0)", 3, x.row(0));
    DOC.is("row(99)", 4, x.row(99));
    DOC.says("-4; -6 (99; 16, too)");
    no("row(-1)", -4, () -> x.row(-1));
    no("row(100)", -6, () -> x.row(100));
    for (int i = 5; i <= 16; i++) {
      DOC.is("row(9)", i, x.row(9));
    }
    no("row(9), the 17th", -6, () -> x.row(9));
    no("row(-1), the 17th", -4, () -> x.row(-1));

    DOC.says("JUDGED; -9 (whichever it answers, the ROW has none then)");
    DOC.is("judge()", 0, x.judge());
    DOC.is("count(6)", 0, x.count(6));
    x.row(2);
    DOC.is("judge()", -9, x.judge());
    DOC.is("count(6)", 0, x.count(6));
    DOC.is("row(1)", 1, x.row(1));

    DOC.says("The ROW has none then: how many it had");
    DOC.is("clear()", 1, x.clear());
    DOC.is("count(6)", 0, x.count(6));
    DOC.is("clear()", 0, x.clear());
    for (int i = 0; i < 16; i++) {
      x.row(i);
    }
    DOC.is("clear()", 16, x.clear());
  }

  private static void lotsAndImage() {
    some();
    DOC.says("LOTS: KEPT (what 0), PEOPLE (1)");
    RoomToSpare one = Due.townOf("hh9900;");
    DOC.is("lots(2, 0, 0)", 2, one.lots(2, 0, 0));
    DOC.is("lots(2, 0, 1)", 20, one.lots(2, 0, 1));
    DOC.says("-4; -6 20; -2");
    no("lots(0, 0, 2)", -4, () -> x.lots(0, 0, 2));
    no("lots(least, 0, 0)", -4, () -> x.lots(LEAST, 0, 0));
    no("lots(21, 0, -1)", -6, () -> x.lots(21, 0, -1));
    no("lots(20, 0, 2)", -2, () -> x.lots(20, 0, 2));
    no("lots(1, 0, -1)", -2, () -> x.lots(1, 0, -1));

    DOC.says("THE IMAGE is taken: WEEK");
    x.weeks(3);
    DOC.is("image()", 5, x.image());
    DOC.is("of a new object", 0, new RoomToSpare().image());

    DOC.says("ON from it: WEEK");
    x.weeks(3);
    DOC.is("on()", 5, x.on());

    DOC.says("-3 there is none");
    x = new RoomToSpare();
    no("on()", -3, () -> x.on());
    x.image();
    DOC.is("on()", 0, x.on());
  }

  private static void count() {
    some();
    DOC.says("0 HOUSES, 1 WEEK, 2 KEPT (bits), 3 all PEOPLE");
    x.peoples(2, 4);
    DOC.is("count(0)", 3, x.count(0));
    DOC.is("count(1)", 2, x.count(1));
    DOC.is("count(2)", 3, x.count(2));
    DOC.is("count(3), a lost one's, too", 12, x.count(3));

    DOC.says("4 CANDLES, 5 where THE INSPECTOR is, 6 in the ROW, 7 letters");
    DOC.is("count(4)", 65, x.count(4));
    DOC.is("count(5)", 2, x.count(5));
    x.row(1);
    DOC.is("count(6)", 2, x.count(6));
    DOC.is("count(7)", 1, x.count(7));

    DOC.says("11 .. 16 REFUSALS -1 .. -6");
    int[] times = {3, 2, 1, 4, 0, 5};
    LongSupplier[] refused = {() -> x.next(9), () -> x.run(9), () -> x.airs(2), () -> x.candles(-1),
        null, () -> x.candles(1000)};
    for (int i = 0; i < times.length; i++) {
      for (int j = 0; j < times[i]; j++) {
        refused[i].getAsLong();
      }
    }
    for (int i = 0; i < times.length; i++) {
      DOC.is("count(" + (11 + i) + ")", times[i], x.count(11 + i));
    }

    DOC.says("-9 for another what");
    for (int what : new int[] {-1, 8, 9, 10, 17, 21, LEAST, GREATEST}) {
      DOC.is("count(" + what + ")", -9, x.count(what));
    }
    for (int i = 0; i < times.length; i++) {
      DOC.is("-9 is none refused: count(" + (11 + i) + ")", times[i], x.count(11 + i));
    }
  }

  private static void calls() {
    Reading first = new Reading("An object is used", "what later calls answer");
    first.says("An object is used for at most 512 calls after it has been made");
    x = new RoomToSpare();
    for (int i = 0; i < 255; i++) {
      x.candles(-1);
      x.candles(i);
    }
    first.is("call 511", 255, x.count(14));
    first.is("call 512", 254, x.count(4));
    first.end();
  }
}
