/** The document's words from SPARE to the DRAW, one behind the other. */
public final class EdgesOfQuestionsTest {
  private static final Reading DOC = new Reading("SPARE: how many PEOPLE", "THE IMAGE: all");
  private static final String ALONE = "hh9900;hh9900;hh0100;hh9900;hh9900;hh9900;";
  private static final String SIX = "hh9900;hh9900;hh9900;hh9900;hh9900;hh9900;";

  public static void main(String[] args) {
    spare();
    fullestAndDustiest();
    candles();
    next();
    run();
    twoLet();
    twoAreWorth();
    twoPairs();
    guest();
    mean();
    whatItIs();
    rowAndJudged();
    lots();
    draw();
    DOC.end();
  }

  private static void spare() {
    DOC.says("SPARE: how many PEOPLE more could sleep in HOUSES KEPT, were THE ROOMS used, too");
    DOC.is("3 rooms of 3, 5 sleep there", 4, Due.townOf("hh0305;").spare(0));
    DOC.is("no other room", 0, Due.townOf("hh0104;").spare(0));
    DOC.is("9 rooms of none", 0, Due.townOf("hh0900;").spare(0));
    DOC.is("above 30, too", 30, Due.townOf("hh0230;").spare(0));
    DOC.is("lost", 0, Due.townOf("hh0230;x0;").spare(0));

    DOC.says("as many in each room as CROWD is now: in all");
    DOC.is("9 rooms of 4, 30 sleep there", 6, Due.townOf("hh0930;").spare(0));
    DOC.is("of three", 40, Due.townOf("hh0930;hh0305;hh0230;").spare(0));
    DOC.is("of two that are kept", 34, Due.townOf("hh0930;hh0305;hh0230;x0;").spare(0));
    DOC.is("no HOUSES", 0, new RoomToSpare().spare(0));
  }

  private static void fullestAndDustiest() {
    DOC.says("FULLEST: the HOUSE of most CROWD KEPT, of several the least; -9");
    RoomToSpare x = Due.townOf("hh0920;hh0103;hh0204;hh0104;");
    DOC.is("2 and 3 with a crowd of 4", 2, x.spare(1));
    x.keeps(2);
    DOC.is("3", 3, x.spare(1));
    x.keeps(3);
    DOC.is("0 and 1 with a crowd of 3", 0, x.spare(1));
    x.keeps(0);
    x.keeps(1);
    DOC.is("none kept", -9, x.spare(1));
    DOC.is("no HOUSES", -9, new RoomToSpare().spare(1));
    DOC.is("a crowd of 0", 0, Due.townOf("hh0100;hh0100;").spare(1));

    DOC.says("DUSTIEST likewise by DUST");
    x = Due.townOf("hh0920;hh0103;hh0204;hh0104;d001;d119;d220;d320;");
    DOC.is("2 and 3 with 20", 2, x.spare(2));
    x.keeps(2);
    DOC.is("3", 3, x.spare(2));
    x.keeps(3);
    DOC.is("1 with 19", 1, x.spare(2));
    x.keeps(0);
    x.keeps(1);
    DOC.is("none kept", -9, x.spare(2));
    DOC.is("no HOUSES", -9, new RoomToSpare().spare(2));
    DOC.is("no dust", 0, Due.townOf("hh0100;hh0100;").spare(2));
  }

  private static void candles() {
    DOC.says("BURN: CANDLES all KEPT burn in a WEEK");
    RoomToSpare x = Due.townOf("hh0100;hp0100;hm0100;hi0100;hg0100;hc0100;c000;");
    DOC.is("1, 0, 2, 3, 1, 1", 8, x.spare(3));
    x.keeps(3);
    DOC.is("but the inn", 5, x.spare(3));
    DOC.is("no HOUSES", 0, new RoomToSpare().spare(3));

    DOC.says("LASTS: how many whole WEEKS CANDLES last so");
    int[][] due = {{0, 0}, {4, 0}, {5, 1}, {9, 1}, {10, 2}, {999, 199}};
    for (int[] of : due) {
      x.candles(of[0]);
      DOC.is(of[0] + " by 5", of[1], x.spare(4));
    }

    DOC.says("(no bound to it; 99, if none are burnt)");
    DOC.is("999 by 1", 999, Due.townOf("hh0100;c999;").spare(4));
    DOC.is("100 by 1", 100, Due.townOf("hh0100;c100;").spare(4));
    DOC.is("999 by none", 99, Due.townOf("hp0100;c999;").spare(4));
    DOC.is("0 by none", 99, Due.townOf("hp0100;c000;").spare(4));
    DOC.is("none kept", 99, Due.townOf("hh0100;x0;").spare(4));
    DOC.is("no HOUSES", 99, new RoomToSpare().spare(4));
  }

  private static void next() {
    DOC.says("NEXT: the next HOUSE KEPT behind one (round, not itself); -9");
    RoomToSpare x = Due.townOf(SIX + "x1;x2;");
    DOC.is("next(0)", 3, x.next(0));
    DOC.is("of a lost one", 3, x.next(1));
    DOC.is("next(4)", 5, x.next(4));
    DOC.is("round", 0, x.next(5));
    Due.tell(x, "x0;x3;x4;");
    DOC.is("round and not itself", -9, x.next(5));
    DOC.is("but from another", 5, x.next(4));
    DOC.is("and from behind it", 5, x.next(0));
    DOC.is("one alone", -9, Due.townOf("hh9900;").next(0));
  }

  private static void run() {
    DOC.says("RUN: the most HOUSES LOST one behind the other (round; all: as many as there are)");
    DOC.is("none", 0, Due.townOf(SIX).run(0));
    DOC.is("1, 2; 4", 2, Due.townOf(SIX + "x1;x2;x4;").run(0));
    DOC.is("0; 2, 3, 4", 3, Due.townOf(SIX + "x0;x2;x3;x4;").run(0));
    DOC.is("round: 5, 0", 2, Due.townOf(SIX + "x5;x0;x3;").run(0));
    DOC.is("round: 2, 3, 4, 5, 0", 5, Due.townOf(SIX + "x0;x2;x3;x4;x5;").run(0));
    DOC.is("all", 6, Due.townOf(SIX + "x0;x1;x2;x3;x4;x5;").run(0));
    DOC.is("one alone", 1, Due.townOf("hh9900;x0;").run(0));
    DOC.is("no HOUSES", 0, new RoomToSpare().run(0));

    DOC.says("EMPTY: HOUSES (bits) without PEOPLE");
    RoomToSpare x = Due.townOf("hh9900;hh9901;hh9930;hh9900;x2;x3;");
    DOC.is("0 and 3", 9, x.run(1));
    x.peoples(0, 1);
    DOC.is("3, a lost one", 8, x.run(1));
    DOC.is("no HOUSES", 0, new RoomToSpare().run(1));

    DOC.says("CROWDED: HOUSES KEPT (bits) in which a child is found next");
    x = Due.townOf("hh0103;hh0102;hh0130;hp0102;hg0130;x2;");
    DOC.is("0 and 3", 9, x.run(2));
    x.keeps(2);
    DOC.is("0, 2, 3", 13, x.run(2));
    DOC.is("no HOUSES", 0, new RoomToSpare().run(2));
  }

  /** House 0 is seen in WEEKS 1 and 5; a child is found there each WEEK, or none if it lets. */
  private static RoomToSpare ring(int dust, int dents) {
    RoomToSpare x = Due.townOf("hh0203;hh9900;hh9900;hh9900;");
    Due.tell(x, "d0" + dust / 10 + dust % 10 + ";");
    x.dents(0, dents);
    return x;
  }

  private static void twoLet() {
    DOC.says("TWO HOUSES, each lets THE ROOM (1: from now on CROWD is by all ROOMS");
    // Not letting 5 - 4 DENTS; letting it is lost in WEEK 1, with 2, and no DENTS.
    DOC.is("no child, if it lets", 11, ring(7, 0).two(0, 1, 4));
    RoomToSpare x = Due.townOf("hh0408;hh9900;hh9900;hh9900;d007;");
    DOC.is("8 by 3 are 3, by 4 they are 2", 11, x.two(0, 1, 4));
    // A child either way: 5 - 4 and 2 - 1.
    x.peoples(0, 9);
    DOC.is("9 by 3 are 3, by 4 they are, too", 1, x.two(0, 1, 4));

    DOC.says("DUST is 3 more now, 20 at most) or not (0)");
    DOC.is("5 and 3 and 1 are kept", 11, Due.townOf("hh9900;hh9900;d005;").two(0, 1, 1));
    DOC.is("6 and 3 and 1 are lost", 1, Due.townOf("hh9900;hh9900;d006;").two(0, 1, 1));
    DOC.is("the other", 10, Due.townOf("hh9900;hh9900;d105;").two(0, 1, 2));
    DOC.is("the other, aired", 11, Due.townOf("hh9900;hh9900;d104;").two(0, 1, 2));
    DOC.is("lost either way", 11, Due.townOf("hh9900;hh9900;d020;").two(0, 1, 1));
    x = ring(0, 0);
    DOC.is("of a lost one, too", 11, Due.townOf("hh9900;hh9900;x0;").two(0, 1, 9));
    x.two(0, 1, 9);
    DOC.is("in mind alone: dust", 0, x.house(0, 4));
    DOC.is("in mind alone: crowd", 3, x.house(0, 7));
    DOC.is("in mind alone: crowd then", 3, x.houseThen(0, 3, 1));
  }

  private static void twoAreWorth() {
    DOC.says("each has 5, if it is KEPT behind n WEEKS (0 .. 30)");
    DOC.is("n is -1", -4, ring(7, 0).two(0, 1, -1));
    DOC.is("n is 31", -6, ring(7, 0).two(0, 1, 31));
    DOC.is("n is 0", 11, ring(7, 0).two(0, 1, 0));
    DOC.is("5 - 1 and 2", 1, ring(7, 0).two(0, 1, 1));
    DOC.is("5 - 3 and 2", 1, ring(7, 0).two(0, 1, 3));
    DOC.is("5 - 4 and 2", 11, ring(7, 0).two(0, 1, 4));
    DOC.is("lost in WEEK 5: -5 and 2", 11, ring(7, 0).two(0, 1, 5));
    // WEEK 30 is dark: the inn that lets is lost in it, with 3 + 3 + 7, as it is if it does not.
    DOC.is("n is 30", 11, Due.townOf("hi9900;hi9900;hi9900;c261;").two(1, 2, 30));

    DOC.says("less its DENTS then");
    DOC.is("5 - 4 and 2 - 1, lost with it", 1, ring(7, 1).two(0, 1, 3));
    DOC.is("5 - 5 and 2 - 1", 11, ring(7, 1).two(0, 1, 4));
    DOC.is("-3 and 2 - 2, lost either way", 11, ring(7, 2).two(0, 1, 1));

    DOC.says("2 more for letting");
    DOC.is("5 and 7", 11, Due.townOf("hh9900;hh9900;").two(0, 1, 30));
    DOC.is("0 and 2", 11, Due.townOf("hh9900;hh9900;x0;x1;").two(0, 1, 30));
    DOC.is("5 - 2 and 2", 1, ring(7, 0).two(0, 1, 2));
  }

  private static void twoPairs() {
    DOC.says("the first pair (10 the first's and the other's)");
    DOC.is("0 and 0", 0, Due.townOf("hh9900;hh9900;d006;d105;").two(0, 1, 2));
    DOC.is("0 and 1", 1, Due.townOf("hh9900;hh9900;d006;").two(0, 1, 2));
    DOC.is("1 and 0", 10, Due.townOf("hh9900;hh9900;d006;").two(1, 0, 2));
    DOC.is("1 and 1", 11, Due.townOf("hh9900;hh9900;").two(1, 0, 2));

    DOC.says("by which neither has more by another one alone");
    DOC.is("as much is not more", 1, ring(7, 0).two(0, 1, 3));
    DOC.is("told the other way", 10, ring(7, 0).two(1, 0, 3));

    DOC.says("-9");
    DOC.is("none", -9, Due.townOf("hi5526;hp3106;hm9401;d005;c107;").two(0, 2, 22));
  }

  private static void fraction(RoomToSpare x, int n, int t, long above, long below) {
    DOC.is("above, 1 in " + t + ", n " + n, above, x.guest(0, n, t, 0));
    DOC.is("below, 1 in " + t + ", n " + n, below, x.guest(0, n, t, 1));
  }

  private static void guest() {
    DOC.says("GUEST: in each of n WEEKS (0 .. 7), by itself, with odds 1 in t (2 .. 20)");
    RoomToSpare x = Due.townOf("hh9900;");
    x.dents(0, 2);
    fraction(x, 0, 2, 1, 1);
    fraction(x, 1, 2, 1, 2);
    fraction(x, 1, 20, 19, 20);
    fraction(x, 2, 3, 4, 9);
    fraction(x, 7, 2, 1, 128);
    fraction(x, 7, 20, 893871739L, 1280000000L);
    long no = 4000000000000000000L;
    DOC.is("n is -1", no + 4, x.guest(0, -1, 2, 0));
    DOC.is("n is 8", no + 6, x.guest(0, 8, 2, 0));
    DOC.is("t is 1", no + 4, x.guest(0, 1, 1, 0));
    DOC.is("t is 21", no + 6, x.guest(0, 1, 21, 0));

    DOC.says("a stranger is shown up: a told HOUSE has a DENT more ahead of it");
    x.dents(0, 0);
    fraction(x, 2, 2, 1, 1);
    fraction(x, 3, 2, 7, 8);
    x.dents(0, 1);
    fraction(x, 1, 2, 1, 1);
    fraction(x, 2, 2, 3, 4);
    // House 0 is seen in WEEK 2: two DENTS ahead of it, of a child, and one of a stranger lose it.
    x = Due.townOf("hh0103;hh9900;hh9900;i2;");
    fraction(x, 1, 2, 1, 1);
    fraction(x, 2, 2, 1, 4);
    fraction(x, 3, 2, 1, 4);
    // The other one has 2 DENTS, and no stranger.
    x = Due.townOf("hh9900;hh9900;i1;");
    x.dents(1, 2);
    fraction(x, 1, 2, 1, 1);
    DOC.is("but if it is told", 1, x.guest(1, 1, 2, 0));
    DOC.is("but if it is told", 2, x.guest(1, 1, 2, 1));

    DOC.says("(if KEPT; 9 at most)");
    x = Due.townOf("hh9900;hh9900;x0;i1;");
    fraction(x, 0, 2, 0, 1);
    fraction(x, 7, 20, 0, 1);
    x.keeps(0);
    x.dents(0, 9);
    fraction(x, 1, 2, 1, 1);
    fraction(x, 2, 2, 0, 1);

    DOC.says("how likely it is KEPT behind these: a fraction");
    x = Due.townOf("hh9900;d009;");
    fraction(x, 0, 2, 1, 1);
    fraction(x, 1, 2, 0, 1);
    DOC.is("house(0, 5)", 0, x.house(0, 5));
    DOC.is("count(1)", 0, x.count(1));
  }

  private static void mean() {
    DOC.says("MEAN: of PEOPLE: a fraction (0 by 1 of none)");
    RoomToSpare x = Due.townOf("hh9904;hh9905;hh9901;hh9900;");
    DOC.is("10 by 4", 5, x.mean(0));
    DOC.is("10 by 4", 2, x.mean(1));
    x.keeps(0);
    DOC.is("with a lost one's", 5, x.mean(0));
    DOC.is("with a lost one", 2, x.mean(1));
    DOC.is("no HOUSES", 0, new RoomToSpare().mean(0));
    DOC.is("no HOUSES", 1, new RoomToSpare().mean(1));
    DOC.is("no PEOPLE", 0, Due.townOf("hh9900;hh9900;").mean(0));
    DOC.is("no PEOPLE", 1, Due.townOf("hh9900;hh9900;").mean(1));
  }

  private static void rowOf(RoomToSpare x, int... numbers) {
    x.clear();
    for (int v : numbers) {
      x.row(v);
    }
  }

  private static void whatItIs() {
    DOC.says("WHAT IT IS: a ROW tells DUST of a HOUSE behind 0, 1, .. WEEKS");
    // House 1 is seen in WEEK 3.
    RoomToSpare x = Due.townOf("hh9900;hg0900;hh9900;i2;");
    DOC.is("no ROW: any", 63, x.whatIs(1, 0));
    rowOf(x, 0);
    DOC.is("0 now", 63, x.whatIs(1, 0));
    rowOf(x, 2);
    DOC.is("2 now", 0, x.whatIs(1, 0));
    rowOf(x, 0, 2, 2, 0, 0);
    DOC.is("a ghost, aired in WEEK 3", 16, x.whatIs(1, 0));
    DOC.is("of FIGURE 0", 1, x.whatIs(1, 1));

    DOC.says("KINDS (bits) of it by which all of it is so");
    int[][] rows = {{0, 1}, {0, 2}, {0, 2, 4}, {0, 2, 2}, {0, 3}, {0, 0}, {0, 2, 3}, {0, 4}};
    int[] due = {1, 18, 2, 16, 12, 32, 0, 0};
    for (int i = 0; i < rows.length; i++) {
      rowOf(x, rows[i]);
      DOC.is("row " + i, due[i], x.whatIs(1, 0));
    }
    x = Due.townOf("hh9900;");
    rowOf(x, 0, 0, 0, 0, 0, 0, 0, 0, 0, 0, 0, 0, 0, 0, 0, 0);
    DOC.is("16 numbers", 63, x.whatIs(0, 0));
    rowOf(x, 0, 0, 0, 0, 0, 0, 0, 0, 0, 0, 0, 0, 0, 0, 0, 1);
    DOC.is("the 16th is not so", 0, x.whatIs(0, 0));
    DOC.is("house(0, 0)", 0, x.house(0, 0));

    DOC.says("FIGURES (bits 0 .. 9)");
    // House 1, a ghost, is seen in WEEK 6.
    x = Due.townOf("hh9900;hg5900;hh9900;hh9900;hh9900;hh9900;x0;x2;x3;x4;x5;i2;");
    rowOf(x, 0, 2, 4, 6);
    DOC.is("not 0, 1", 1020, x.whatIs(1, 1));
    rowOf(x, 0, 2, 4, 4);
    DOC.is("1", 2, x.whatIs(1, 1));
    rowOf(x, 0, 2, 4, 6, 8);
    DOC.is("not 0, 1, 2", 1016, x.whatIs(1, 1));
    x = Due.townOf("w10;hh9900;hg5900;");
    rowOf(x, 0, 0);
    DOC.is("9: 11 divides WEEK 11", 512, x.whatIs(1, 1));
    rowOf(x, 0, 2);
    DOC.is("0 .. 8", 511, x.whatIs(1, 1));
    DOC.is("house(1, 1)", 5, x.house(1, 1));
  }

  private static void rowAndJudged() {
    DOC.says("A ROW of numbers (0 .. 99; 16 at most)");
    RoomToSpare x = Due.townOf("hh9900;hh9900;hh9900;x2;");
    DOC.is("row(-1)", -4, x.row(-1));
    DOC.is("row(100)", -6, x.row(100));
    for (int i = 1; i <= 16; i++) {
      DOC.is("number " + i, i, x.row(i % 2 * 99));
    }
    DOC.is("number 17", -6, x.row(0));
    DOC.is("count(6)", 16, x.count(6));

    DOC.says("JUDGED: DENTS of HOUSES 0, 1, ..: the first that is not so");
    x.dents(0, 9);
    x.dents(1, 1);
    x.dents(2, 3);
    int[][] rows = {{8}, {9, 0, 0}, {9, 1, 2}, {9, 1, 4}, {99, 1, 3}};
    int[] due = {0, 1, 2, 2, 0};
    for (int i = 0; i < rows.length; i++) {
      rowOf(x, rows[i]);
      DOC.is("row " + i, due[i], x.judge());
    }

    DOC.says("(none there, too); -9");
    rowOf(x, 9, 1, 3);
    DOC.is("all three", -9, x.judge());
    rowOf(x, 9, 1);
    DOC.is("two of three", -9, x.judge());
    rowOf(x, 9, 1, 3, 0);
    DOC.is("no HOUSE 3", 3, x.judge());
    DOC.is("no ROW", -9, x.judge());
    x = new RoomToSpare();
    rowOf(x, 0);
    DOC.is("no HOUSES", 0, x.judge());
  }

  private static void lots() {
    DOC.says("LOTS with a seed z: n years (1 .. 20), each from now");
    RoomToSpare x = Due.townOf("hh9900;hh9900;hh9900;hh9900;c048;");
    DOC.is("n is 0", -4, x.lots(0, 0, 0));
    DOC.is("n is 21", -6, x.lots(21, 0, 0));
    DOC.is("a year has light", 4, x.lots(1, 0, 0));
    DOC.is("20 years", 80, x.lots(20, 0, 0));
    DOC.is("count(1)", 0, x.count(1));

    DOC.says("PEOPLE of each HOUSE, by numbers, by a DRAW below 31");
    // 2 do not lose house 0, 30 do; house 1 bears all. The seeds draw 2 and 30; 30 and 0.
    x = Due.townOf("hh0100;hg9900;");
    DOC.is("KEPT of 2 and 30", 2, x.lots(1, 4, 0));
    DOC.is("KEPT of 30 and 0", 1, x.lots(1, 20, 0));
    DOC.is("PEOPLE of 2 and 30", 32, x.lots(1, 4, 1));
    DOC.is("PEOPLE of 30 and 0", 30, x.lots(1, 20, 1));
    DOC.is("count(3)", 0, x.count(3));
    DOC.is("a lost one's, too", 32, Due.townOf("hh0100;hg9900;x0;").lots(1, 4, 1));

    DOC.says("DENTS 0");
    x = Due.townOf("hh9900;");
    x.dents(0, 9);
    DOC.is("three years", 3, x.lots(3, 0, 0));
    DOC.is("house(0, 5)", 9, x.house(0, 5));
    // House 0 is lost in WEEK 5, its 18 come to house 2, where none were drawn; seen in 7 with 2.
    x = Due.townOf(ALONE + "x1;x3;x4;x5;d006;i2;");
    DOC.is("2 DENTS, kept", 1, x.lots(1, 2, 0));
    DOC.is("12 and 18 and 6, 26, 15", 77, x.lots(1, 2, 1));
    // House 5 is lost in WEEK 4, its 15 come to house 2, seen in 7 with 3.
    DOC.is("3 DENTS, lost", 0, Due.townOf(ALONE + "x0;x1;x3;x4;d506;i2;").lots(1, 2, 0));

    DOC.says("then 12 WEEKS: KEPT of all together; PEOPLE");
    // Unlit from WEEK 11 on: house 5, seen in 12, has 4 + 3 + 3; house 0, seen in 13, 3 + 3 + 3 + 3.
    x = Due.townOf(SIX + "c060;");
    DOC.is("one is lost in WEEK 12, one would be in 13", 5, x.lots(1, 0, 0));
    DOC.is("in two years", 10, x.lots(2, 0, 0));
    x = Due.townOf("hh9900;");
    DOC.is("3 and 17", 20, x.lots(2, 0, 1));
  }

  private static void draw() {
    DOC.says("A DRAW below m: z becomes z times 1664525 and 1013904223 (an int)");
    RoomToSpare x = Due.townOf("hh9900;");
    int[] first = {3, 26, 18, 10};
    for (int z = 0; z < first.length; z++) {
      DOC.is("z " + z, first[z], x.lots(1, z, 1));
    }
    DOC.is("3, 17, 25, 20, 27, 8", 100, x.lots(6, 0, 1));
    DOC.is("26, 14, 24, 28, 7, 16", 115, x.lots(6, 1, 1));

    DOC.says("(z without its sign's bit by 256, cut) modulo m");
    DOC.is("z -1", 11, x.lots(1, -1, 1));
    DOC.is("z 1000, which becomes one below 0", 13, x.lots(1, 1000, 1));
    DOC.is("the least z", 3, x.lots(1, Integer.MIN_VALUE, 1));
    DOC.is("the greatest z", 11, x.lots(1, Integer.MAX_VALUE, 1));
    DOC.is("0 is drawn", 0, x.lots(1, 12, 1));
    DOC.is("30 is drawn", 30, x.lots(1, 20, 1));
  }
}
