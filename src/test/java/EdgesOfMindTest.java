/** The document's words from what comes in mind to what had best be done, one behind the other. */
public final class EdgesOfMindTest {
  private static final Reading DOC = new Reading("(In thought WEEK", "SPARE: how many PEOPLE");
  /** Four that burn 4 a WEEK, with CANDLES behind it. */
  private static final String FOUR = "hh9900;hh9900;hh9900;hh9900;";
  /** Three inns burn 9 a WEEK; each is aired with DUST 9, but lost with one dark WEEK of three. */
  private static final String INNS = "hi9900;hi9900;hi9900;";

  public static void main(String[] args) {
    beyondTheLastWeek();
    ofOne();
    inMind();
    lost();
    first();
    dark();
    still();
    move();
    moveHow();
    air();
    start();
    buy();
    turn();
    DOC.end();
  }

  private static void beyondTheLastWeek() {
    DOC.says("(In thought WEEK may pass 999.)");
    RoomToSpare x = Due.townOf("hp9900;x0;hg0100;");
    for (int i = 0; i < 17; i++) {
      x.candles(999);
      x.weeks(i == 16 ? 39 : 60);
    }
    x.airs(1);
    x.candles(999);
    DOC.is("count(1)", 999, x.count(1));
    DOC.is("weeks(1)", -6, x.weeks(1));
    x.visits(0);
    DOC.is("a ghost in WEEK 1000", 0, x.houseThen(1, 1, 0));
    x.visits(1);
    DOC.is("in WEEK 1001", 2, x.houseThen(1, 2, 0));
    DOC.is("then(60, 1)", 939, x.then(60, 1));
    DOC.is("lost(1)", -9, x.lost(1));
    DOC.is("count(1)", 999, x.count(1));
  }

  private static void ofOne() {
    DOC.says("CROWD of one");
    RoomToSpare x = Due.townOf("hh0205;hh0307;hh0130;x2;");
    DOC.is("house(0, 7)", 5, x.house(0, 7));
    DOC.is("house(1, 7)", 4, x.house(1, 7));
    DOC.is("of a lost one", 30, x.house(2, 7));

    DOC.says("whether a child is found there in the next WEEK (1, if KEPT and CROWD is enough; 0)");
    DOC.is("house(0, 8)", 1, x.house(0, 8));
    x.peoples(0, 3);
    DOC.is("just enough", 1, x.house(0, 8));
    DOC.is("and so it is", 1, x.houseThen(0, 1, 1));
    x.peoples(0, 2);
    DOC.is("one less", 0, x.house(0, 8));
    DOC.is("and so it is", 0, x.houseThen(0, 1, 1));
    DOC.is("a lost one", 0, x.house(2, 8));
    x.keeps(2);
    DOC.is("kept again", 1, x.house(2, 8));
  }

  private static void inMind() {
    DOC.says("In mind, n WEEKS on (0 .. 60): DUST, DENTS, PEOPLE of one");
    RoomToSpare x = Due.townOf("hp9905;hp9900;d007;");
    x.dents(0, 2);
    int[][] due = {{7, 2, 5}, {0, 2, 5}, {2, 2, 5}};
    int[] weeks = {0, 59, 60};
    for (int i = 0; i < weeks.length; i++) {
      for (int what = 0; what < 3; what++) {
        String call = "houseThen(0, " + weeks[i] + ", " + what + ")";
        DOC.is(call, due[i][what], x.houseThen(0, weeks[i], what));
      }
    }
    DOC.is("houseThen(1, 59, 0)", 2, x.houseThen(1, 59, 0));
    DOC.is("houseThen(1, 60, 0)", 0, x.houseThen(1, 60, 0));
    DOC.is("houseThen(0, 61, 0)", -6, x.houseThen(0, 61, 0));
    DOC.is("houseThen(0, -1, 0)", -4, x.houseThen(0, -1, 0));
    DOC.is("house(0, 4)", 7, x.house(0, 4));

    DOC.says("KEPT (bits)");
    x = Due.townOf("hh9900;hh9900;hh9900;x1;d209;c100;");
    DOC.is("then(0, 0)", 5, x.then(0, 0));
    DOC.is("then(2, 0)", 5, x.then(2, 0));
    DOC.is("then(3, 0)", 1, x.then(3, 0));
    DOC.is("then(60, 0)", 1, x.then(60, 0));
    DOC.is("then(61, 0)", -6, x.then(61, 0));
    DOC.is("then(-1, 0)", -4, x.then(-1, 0));
    DOC.is("none", 0, new RoomToSpare().then(60, 0));

    DOC.says("CANDLES");
    DOC.is("then(0, 1)", 100, x.then(0, 1));
    DOC.is("then(3, 1)", 94, x.then(3, 1));
    DOC.is("then(60, 1)", 37, x.then(60, 1));
    x.candles(1);
    DOC.is("none are left", 0, x.then(60, 1));

    DOC.says("where THE INSPECTOR is (-9 no HOUSES)");
    DOC.is("then(0, 2)", 0, x.then(0, 2));
    DOC.is("then(2, 2)", 2, x.then(2, 2));
    DOC.is("then(60, 2)", 0, x.then(60, 2));
    DOC.is("no HOUSES", -9, new RoomToSpare().then(0, 2));
    DOC.is("no HOUSES behind 60", -9, new RoomToSpare().then(60, 2));
    DOC.is("all lost", 0, Due.townOf("hh9900;x0;").then(60, 2));
  }

  private static void lost() {
    DOC.says("LOST: behind how many WEEKS (0 .. 60) one is so first; -9");
    RoomToSpare x = Due.townOf("hh9900;x0;");
    DOC.is("lost now", 0, x.lost(0));
    x = Due.townOf("hh9900;d009;");
    DOC.is("in the next WEEK", 1, x.lost(0));
    Due.tell(x, "d008;");
    DOC.is("aired each WEEK", -9, x.lost(0));
    // Unlit from WEEK 58 on: house 3, seen in 56 and 60, has 1 + 3 + 3 + 3 then.
    x = Due.townOf(FOUR + "c228;");
    DOC.is("behind 60", 60, x.lost(3));
    // Unlit from WEEK 59 on: house 0, seen in 57 and 61, has 1 + 3 + 3 + 3 then.
    x = Due.townOf(FOUR + "c232;");
    DOC.is("behind 61", -9, x.lost(0));
    x.weeks(1);
    DOC.is("a WEEK on", 60, x.lost(0));
  }

  private static void first() {
    DOC.says("FIRST: which is, of those KEPT now, of several the least; -9");
    RoomToSpare x = Due.townOf("hh9900;hh9900;hh9900;d209;d109;");
    DOC.is("house 1 ahead of 2", 1, x.lost(-1));
    x.visits(2);
    x.then(60, 0);
    DOC.is("house 2 ahead of 1, behind another question", 2, x.lost(-1));
    DOC.is("house 2 alone", 2, Due.townOf("hh9900;hh9900;hh9900;d209;").lost(-1));
    DOC.is("one lost now is not", 1, Due.townOf("hh9900;hh9900;d109;d020;x0;").lost(-1));
    DOC.is("two alike", 0, Due.townOf("hh9900;hh9900;d009;d109;").lost(-1));
    DOC.is("two alike, from the other", 1, Due.townOf("hh9900;hh9900;d009;d109;i1;").lost(-1));
    DOC.is("behind 60", 3, Due.townOf(FOUR + "c228;").lost(-1));
    DOC.is("behind 61", -9, Due.townOf(FOUR + "c232;").lost(-1));
    DOC.is("never", -9, Due.townOf("hc9900;").lost(-1));
    DOC.is("none kept", -9, Due.townOf("hc9900;x0;").lost(-1));
    DOC.is("no HOUSES", -9, new RoomToSpare().lost(-1));
  }

  private static void dark() {
    DOC.says("DARK: behind how many WEEKS CANDLES are fewer");
    RoomToSpare x = Due.townOf("hh9900;c000;");
    DOC.is("0 for 1", 0, x.dark());
    x.candles(1);
    DOC.is("1 for 1 is not fewer", 1, x.dark());
    x.candles(60);
    DOC.is("behind 60", 60, x.dark());
    x.candles(61);
    DOC.is("behind 61", -9, x.dark());

    DOC.says("than all that are KEPT burn in a WEEK together first; -9");
    x = Due.townOf("hm9900;hh9900;c002;");
    DOC.is("2 for 2 and 1", 0, x.dark());
    int[] due = {1, 1, 1, 2};
    for (int more = 0; more < due.length; more++) {
      x.candles(3 + more);
      DOC.is(3 + more + " for 2 and 1", due[more], x.dark());
    }
    x.keeps(0);
    x.candles(2);
    DOC.is("2 for 1 kept", 2, x.dark());
    x.keeps(1);
    DOC.is("none kept", -9, x.dark());
    // House 0 is lost in WEEK 1; the 1 that is left is enough for house 1.
    DOC.is("of those kept then", 2, Due.townOf("hh9900;hh9900;d009;c003;").dark());
    DOC.is("none burn", -9, Due.townOf("hp9900;c000;").dark());
    x = new RoomToSpare();
    x.candles(0);
    DOC.is("no HOUSES", -9, x.dark());
  }

  private static void still() {
    DOC.says("STILL: the least n (0 .. 60) with as many KEPT behind n and n and 20 WEEKS; -9");
    DOC.is("no HOUSES", 0, new RoomToSpare().still());
    DOC.is("kept for ever", 0, Due.townOf("hc9900;").still());
    DOC.is("lost for ever", 0, Due.townOf("hc9900;x0;").still());
    DOC.is("lost behind 1", 1, Due.townOf("hh9900;d009;").still());
    // Unlit from WEEK 19 on: house 0 is the first, lost in 21.
    RoomToSpare x = Due.townOf(FOUR + "c072;");
    DOC.is("lost(0)", 21, x.lost(0));
    DOC.is("first lost behind 21", 0, x.still());
    // Unlit from WEEK 18 on: lost in 20, 21, 22, 23.
    x.candles(68);
    DOC.is("lost(3)", 20, x.lost(3));
    DOC.is("first lost behind 20", 23, x.still());
    int[] due = {46, 12, 53, 29, 60};
    x = Due.townOf("hg2209;hg5403;hc2403;hg4802;hc2900;c162;");
    for (int i = 0; i < due.length; i++) {
      DOC.is("lost(" + i + ")", due[i], x.lost(i));
    }
    DOC.is("never 20 WEEKS between, the last behind 60", 60, x.still());
    x = Due.townOf("hg2309;hc0605;hh9700;hc1600;hc9200;hc6202;c179;i5;");
    DOC.is("the last behind 61", -9, x.still());
    x.weeks(1);
    DOC.is("lost(5), a WEEK on", 60, x.lost(5));
    DOC.is("a WEEK on", 60, x.still());
  }

  private static void move() {
    DOC.says("MOVE: from which HOUSE to which (10 the one and the other");
    DOC.is("from 0 to 1", 1, Due.townOf("hh0103;hh0100;").move(5));
    DOC.is("from 1 to 0", 10, Due.townOf("hh0100;hh0103;").move(5));
    String clean = "hc9900;";
    DOC.is("from 5 to 0", 50, Due.townOf(clean.repeat(5) + "hh0103;").move(6));
    DOC.is("from 5 to 4", 54, Due.townOf(clean.repeat(5) + "hh0103;x0;x1;x2;x3;").move(6));

    DOC.says("both KEPT)");
    DOC.is("not to a lost one", -9, Due.townOf("hh0103;hh0100;x1;").move(5));
    DOC.is("but to one behind it", 2, Due.townOf("hh0103;hh0100;hh0100;x1;").move(5));
    // 15 from house 0 would lose the inn in WEEK 5 and leave its light to the miller: one KEPT.
    RoomToSpare x = Due.townOf("hh0130;hi0100;hm9900;x0;c080;");
    DOC.is("lost(1)", 17, x.lost(1));
    DOC.is("lost(2)", 18, x.lost(2));
    DOC.is("not from a lost one", -9, x.move(30));
    x.peoples(1, 15);
    DOC.is("though it would help", 4, x.then(30, 0));
  }

  private static void moveHow() {
    DOC.says("half of its PEOPLE, cut");
    DOC.is("2 of 4 stay", 1, Due.townOf("hh0104;hh9900;").move(5));
    DOC.is("3 of 5 stay", -9, Due.townOf("hh0105;hh9900;").move(5));
    DOC.is("3 of 6 stay", -9, Due.townOf("hh0106;hh9900;").move(5));

    DOC.says("(as many as there is room for)");
    DOC.is("room for 2", 1, Due.townOf("hh0104;hh9928;").move(5));
    DOC.is("room for 1", -9, Due.townOf("hh0104;hh9929;").move(5));
    DOC.is("room for none", -9, Due.townOf("hh0104;hh9930;").move(5));

    DOC.says("had best go now so that most HOUSES are KEPT behind n WEEKS (0 .. 30)");
    RoomToSpare x = Due.townOf("hh0103;hh9900;");
    DOC.is("move(-1)", -4, x.move(-1));
    DOC.is("move(0)", -9, x.move(0));
    DOC.is("lost behind 3: move(2)", -9, x.move(2));
    DOC.is("move(3)", 1, x.move(3));
    DOC.is("move(30)", 1, x.move(30));
    DOC.is("move(31)", -6, x.move(31));
    DOC.is("house(0, 3)", 3, x.house(0, 3));
    // 1 more in house 1 would lose that one.
    DOC.is("to 2, where it saves both", 2, Due.townOf("hh0103;hh0102;hh0100;").move(12));

    DOC.says("more than else");
    DOC.is("none is lost else", -9, Due.townOf("hh0102;hh0102;").move(30));
    DOC.is("as many else", -9, Due.townOf("hh0104;hh0102;").move(30));

    DOC.says("of several the first; -9");
    DOC.is("to 0 or to 2", 10, Due.townOf("hh9900;hh0103;hh9900;").move(5));
    DOC.is("to 1 or to 2", 1, Due.townOf("hh0103;hh9900;hh9900;").move(5));
    DOC.is("one alone", -9, Due.townOf("hh0103;").move(5));
    DOC.is("no HOUSES", -9, new RoomToSpare().move(5));
  }

  private static void air() {
    DOC.says("AIR: the fewest HOUSES (bits, of several the least)");
    DOC.is("none needs it", 0, Due.townOf("hh9900;hh9900;d008;d107;").air(30));
    DOC.is("the first", 1, Due.townOf("hh9900;hh9900;d009;d107;").air(30));
    DOC.is("the second", 2, Due.townOf("hh9900;hh9900;d008;d108;").air(30));
    String dusty = "d020;d120;d220;d320;d420;d520;";
    DOC.is("all of six", 63, Due.townOf("hc9900;".repeat(6) + dusty).air(6));
    DOC.is("no HOUSES", 0, new RoomToSpare().air(30));

    DOC.says("whose DUST is 0 now so that none KEPT now is LOST within n WEEKS (0 .. 30); -9");
    RoomToSpare x = Due.townOf("hh9900;hh9900;d009;d109;");
    DOC.is("air(-1)", -4, x.air(-1));
    DOC.is("air(0)", 0, x.air(0));
    DOC.is("air(1)", 1, x.air(1));
    DOC.is("air(2)", 3, x.air(2));
    DOC.is("air(30)", 3, x.air(30));
    DOC.is("air(31)", -6, x.air(31));
    x.keeps(0);
    DOC.is("a lost one needs none", 2, x.air(30));
    DOC.is("0 and three times 3 is kept", 4, Due.townOf(INNS + "d209;").air(3));
    DOC.is("0 and five times 2 is lost", -9, Due.townOf("hp9900;".repeat(5) + "d420;").air(5));
    DOC.is("it does not help against dents", -9, Due.townOf("hh0103;").air(3));
    // The last WEEK of 30 is dark: the third is lost in it, with 3 + 3 + 7.
    x = Due.townOf(INNS + "c261;");
    DOC.is("air(29)", 0, x.air(29));
    DOC.is("air(30)", -9, x.air(30));
    DOC.is("house(0, 4)", 0, x.house(0, 4));
  }

  private static void start() {
    DOC.says("START: the HOUSE at which THE INSPECTOR had best be now so that most are KEPT");
    RoomToSpare x = Due.townOf("hh9900;hh9900;d009;");
    DOC.is("start(1, 0)", 1, x.start(1, 0));
    DOC.is("count(5)", 0, x.count(5));
    x = Due.townOf("hh9900;hh9900;hh9900;d109;d009;x2;");
    DOC.is("at a lost one, too", 2, x.start(1, 0));

    DOC.says("behind n WEEKS (0 .. 30)");
    DOC.is("start(-1, 0)", -4, x.start(-1, 0));
    DOC.is("start(31, 0)", -6, x.start(31, 0));
    // WEEK 30 is dark, and the inn that is seen in it has 3 + 3 + 7.
    x = Due.townOf(INNS + "c261;");
    DOC.is("start(29, 1)", 3, x.start(29, 1));
    DOC.is("start(30, 1)", 2, x.start(30, 1));
    // House 1, POOR now, is never lost: it had best be seen in WEEK 30, so house 2 in the first.
    Due.tell(x, "c174;");
    x.turn(1, 1, 9);
    DOC.is("start(29, 0)", 0, x.start(29, 0));
    DOC.is("start(30, 0)", 2, x.start(30, 0));
    DOC.is("start(30, 1)", 3, x.start(30, 1));

    DOC.says("of several the least; -9");
    DOC.is("all alike", 0, Due.townOf("hc9900;hc9900;i1;").start(30, 0));
    DOC.is("1 or 2", 1, Due.townOf("hh9900;hh9900;hh9900;d009;").start(1, 0));
    DOC.is("no HOUSES", -9, new RoomToSpare().start(0, 0));

    DOC.says("how many");
    DOC.is("none lost", 2, Due.townOf("hh9900;hh9900;d009;").start(1, 1));
    DOC.is("one lost", 1, Due.townOf("hh9900;hh9900;d009;").start(2, 1));
    DOC.is("all lost", 0, Due.townOf("hh9900;x0;").start(30, 1));
    DOC.is("no HOUSES", -9, new RoomToSpare().start(0, 1));
  }

  private static void buy() {
    DOC.says("BUY: the fewest CANDLES (0 .. 300)");
    DOC.is("none", 0, Due.townOf("hp9900;").buy(30));
    DOC.is("one", 1, Due.townOf("hh9900;d008;").buy(1));
    DOC.is("one, where there are none", 1, Due.townOf("hh9900;d008;c000;").buy(1));
    DOC.is("one, where there are many", 1, Due.townOf("hh9900;d008;c999;").buy(1));
    RoomToSpare x = Due.townOf(INNS);
    DOC.is("all for 30 WEEKS", 270, x.buy(30));
    DOC.is("no HOUSES", 0, new RoomToSpare().buy(30));
    // 2 are the miller's; 1 is too few for him and lights house 1.
    DOC.is("not more than the fewest", 1, Due.townOf("hm9900;hh9900;d108;i1;").buy(1));

    DOC.says("with which none is LOST that is KEPT now, within n WEEKS (0 .. 30); -9");
    DOC.is("buy(-1)", -4, x.buy(-1));
    DOC.is("buy(31)", -6, x.buy(31));
    DOC.is("buy(0)", 0, x.buy(0));
    DOC.is("two WEEKS: 9 for the first, 6 for the two ahead of it then", 15, x.buy(2));
    DOC.is("count(4)", 50, x.count(4));
    x = Due.townOf("hh9900;d009;");
    DOC.is("no light helps", -9, x.buy(1));
    DOC.is("within 0", 0, x.buy(0));
    x.keeps(0);
    DOC.is("lost now", 0, x.buy(30));
    // House 3 is seen in WEEK 4, with 12 DUST.
    x = Due.townOf(INNS + "hi9900;");
    DOC.is("three WEEKS of four inns: 12, 12, and 9 for those ahead", 33, x.buy(3));
    DOC.is("four", -9, x.buy(4));
  }

  private static void turn() {
    DOC.says("TURN: the KIND for a HOUSE with which it is LOST latest");
    // Seen in WEEKS 2 and 8, always dark: but for a ghost it has 3 DENTS or 14 DUST in 2.
    String others = "hp9900;hh0103;hp9900;hp9900;hp9900;hp9900;x0;x2;x3;x4;x5;c000;";
    RoomToSpare x = Due.townOf(others);
    x.dents(1, 1);
    DOC.is("a ghost", 4, x.bestKind(1, 0));
    DOC.is("lost(1)", 2, x.lost(1));

    DOC.says("(within 60; never is latest)");
    // As in LOST: a HOUSE is lost behind 60, a POOR one never; with 4 CANDLES more behind 61.
    DOC.is("lost behind 60", 1, Due.townOf(FOUR + "c228;").bestKind(3, 0));
    DOC.is("lost behind 61", 0, Due.townOf(FOUR + "c232;").bestKind(0, 0));
    DOC.is("lost behind 61", -9, Due.townOf(FOUR + "c232;").bestKind(0, 1));
    // A HOUSE, or a ghost, is lost in the third dark WEEK, any other in the first that is seen.
    x = Due.townOf("hp9900;hp9900;hp9900;hi1102;x0;x1;x2;c057;");
    DOC.is("lost behind 60", 0, x.bestKind(3, 0));
    DOC.is("behind how many", 60, x.bestKind(3, 1));
    x.candles(58);
    DOC.is("lost behind 64", -9, x.bestKind(3, 1));

    DOC.says("of several the least");
    x = Due.townOf(others);
    x.dents(1, 1);
    DOC.is("lost behind 1 with any", 0, Due.townOf("hi9900;d020;").bestKind(0, 0));
    DOC.is("never lost with any", 0, Due.townOf("hi9900;").bestKind(0, 0));
    DOC.is("lost now", 0, Due.townOf("hi9900;x0;").bestKind(0, 0));
    DOC.is("a miller, an inn or a ghost", 2, Due.townOf("hh0103;c999;").bestKind(0, 0));

    DOC.says("behind how many WEEKS then; -9 never");
    DOC.is("a ghost", 8, x.bestKind(1, 1));
    DOC.is("lost behind 1 with any", 1, Due.townOf("hi9900;d020;").bestKind(0, 1));
    DOC.is("lost now", 0, Due.townOf("hi9900;x0;").bestKind(0, 1));
    DOC.is("never", -9, Due.townOf("hh0103;c999;").bestKind(0, 1));
    DOC.is("house(1, 0)", 0, x.house(1, 0));
  }
}
