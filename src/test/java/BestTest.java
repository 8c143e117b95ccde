/** Promises 18 to 22: what had best be done. */
public final class BestTest {
  private static final Due DUE = new Due();

  public static void main(String[] args) {
    move();
    air();
    start();
    buy();
    bestKind();
    refusals();
    DUE.end();
  }

  private static void move() {
    // House 0 has a dent a week and is lost in week 3, house 1 (crowd 3 then) in week 6.
    RoomToSpare x = Due.townOf("hh0103;hh0100;");
    DUE.is("none is lost within 2", -9, x.move(2));
    DUE.is("move(0)", -9, x.move(0));
    DUE.is("1 of 3 goes to 1", 1, x.move(3));
    DUE.is("for 30 weeks", 1, x.move(30));
    DUE.is("nothing is altered", 3, x.house(0, 3));
    DUE.is("from the second", 10, Due.townOf("hh0100;hh0103;").move(5));
    DUE.is("of several the first", 10, Due.townOf("hh0100;hh0103;hh0100;").move(5));
    DUE.is("not to a lost one", 12, Due.townOf("hh0100;hh0103;hh0100;x0;").move(5));
    DUE.is("not from a lost one", -9, Due.townOf("hh0103;hh0100;x0;").move(5));
    DUE.is("half, cut, is not enough", -9, Due.townOf("hh0105;hh9900;").move(5));
    DUE.is("half is enough", 1, Due.townOf("hh0104;hh9900;").move(5));
    DUE.is("as many as there is room for", 1, Due.townOf("hh0104;hh9928;").move(5));
    DUE.is("room for 1 is not enough", -9, Due.townOf("hh0104;hh9929;").move(5));
    // 2 more make 4 in house 1, lost in week 4; behind 3 weeks both are kept.
    x = Due.townOf("hh0104;hh0102;");
    DUE.is("the other is crowded, but not yet lost", 1, x.move(3));
    DUE.is("then it is", -9, x.move(4));
    DUE.is("one house", -9, Due.townOf("hh0103;").move(5));
    DUE.is("none", -9, new RoomToSpare().move(5));
    // Whatever helps saves house 0 alone: its half may go to 1, which is lost anyway, or to 2.
    DUE.is("of two that save one the first", 1, Due.townOf("hh0103;hh0103;hh9900;").move(5));
  }

  private static void air() {
    RoomToSpare x = Due.townOf("hh9900;hh9900;d009;d109;");
    DUE.is("air(0)", 0, x.air(0));
    DUE.is("air(1)", 1, x.air(1));
    DUE.is("air(2)", 3, x.air(2));
    DUE.is("air(30)", 3, x.air(30));
    DUE.is("nothing is altered", 9, x.house(0, 4));
    DUE.is("the second alone", 2, Due.townOf("hh9900;hh9900;d108;").air(2));
    DUE.is("none need it", 0, Due.townOf("hh9900;hh9900;d008;d107;").air(2));
    DUE.is("a lost one does not count", 0, Due.townOf("hh9900;hh9900;d009;x0;").air(9));
    DUE.is("0 and three times 3 is not yet 10", 4, Due.townOf("hm9900;hm9900;hm9900;d209;").air(3));
    DUE.is("it does not help against dents", -9, Due.townOf("hh0103;hh0100;").air(3));
    DUE.is("ahead of the dents it does", 0, Due.townOf("hh0103;hh0100;").air(2));
    DUE.is("none", 0, new RoomToSpare().air(30));
  }

  private static void start() {
    RoomToSpare x = Due.townOf("hh9900;hh9900;d009;");
    DUE.is("start(1, 0)", 1, x.start(1, 0));
    DUE.is("start(1, 1)", 2, x.start(1, 1));
    DUE.is("start(0, 0)", 0, x.start(0, 0));
    DUE.is("start(2, 0): it is lost either way", 0, x.start(2, 0));
    DUE.is("start(2, 1)", 1, x.start(2, 1));
    DUE.is("nothing is altered", 0, x.count(5));
    x = Due.townOf("hh9900;hh9900;hh9900;d009;d109;d209;x1;");
    DUE.is("at a lost house, too", 1, x.start(1, 0));
    DUE.is("two are kept then", 2, x.start(1, 1));
    x = Due.townOf("hh9900;x0;");
    DUE.is("all lost", 0, x.start(9, 0));
    DUE.is("none kept", 0, x.start(9, 1));
    DUE.is("no houses", -9, new RoomToSpare().start(0, 0));
    DUE.is("no houses, how many", -9, new RoomToSpare().start(0, 1));
  }

  private static void buy() {
    // With 8 dust the light makes it 9, the dark 11.
    RoomToSpare x = Due.townOf("hh9900;d008;");
    DUE.is("buy(0)", 0, x.buy(0));
    DUE.is("buy(1)", 1, x.buy(1));
    DUE.is("then it is aired each week", 1, x.buy(30));
    DUE.is("nothing is altered", 50, x.count(4));
    x.candles(0);
    DUE.is("whatever there is now", 1, x.buy(1));
    Due.tell(x, "d009;");
    DUE.is("no light helps", -9, x.buy(1));
    Due.tell(x, "x0;");
    DUE.is("a lost one needs none", 0, x.buy(30));
    DUE.is("none", 0, new RoomToSpare().buy(30));
    // 2 candles are for the miller alone; 1 or 3 light house 1.
    x = Due.townOf("hm9900;hh9900;d108;i1;");
    DUE.is("1 is enough where 2 are not", 1, x.buy(1));
    x = Due.townOf("hh9900;hm9900;hh9900;d206;i2;");
    DUE.is("6 dust: 9 in the dark", 0, x.buy(1));
    // In a ring of five an inn has 12 dust and more, lit or not, when it is seen in week 4.
    DUE.is("inns in a ring of five", -9, Due.townOf("hi9900;hi9900;hi9900;hi9900;hi9900;").buy(4));
    // Three inns burn 9 a week; the one that is seen has 9 dust, and 10 or more with a dark week.
    x = Due.townOf("hi9900;hi9900;hi9900;");
    DUE.is("three inns, 1 week", 0, x.buy(1));
    DUE.is("three inns, 2 weeks: all in one, two in the other", 15, x.buy(2));
    DUE.is("three inns, 30 weeks", 270, x.buy(30));
    // With a lost one between, they are seen in 1, 2, 3 and 5: then house 0 has 12.
    x = Due.townOf("hi9900;hi9900;hi9900;hp9900;x3;");
    DUE.is("a ring of four with a lost one", 27, x.buy(4));
    DUE.is("in the week behind", -9, x.buy(5));
    x = Due.townOf("hi9900;hi9900;hi9900;");
    DUE.is("three inns, 29 weeks: the third may be dark at last", 258, x.buy(29));
  }

  private static void bestKind() {
    RoomToSpare x = Due.townOf("hh0103;hh9900;c999;");
    DUE.is("with figure 0 a miller is the first that bears 3", 2, x.bestKind(0, 0));
    DUE.is("never", -9, x.bestKind(0, 1));
    x.candles(50);
    DUE.is("unlit he does not; a ghost does", 4, x.bestKind(0, 0));
    DUE.is("an inn bears 6", 3, Due.townOf("hh0106;hh9900;c999;").bestKind(0, 0));
    DUE.is("a ghost bears all", 4, Due.townOf("hh0120;hh9900;c999;").bestKind(0, 0));
    // Seen in week 6: 7 dust and 6 of any other kind's weeks are 10 or more.
    x = Due.townOf("hh9900;hh9900;hh9900;hh9900;hh9900;hh9900;d507;");
    DUE.is("as it is", 6, x.lost(5));
    DUE.is("a clean one bears 7 dust for six weeks", 5, x.bestKind(5, 0));
    DUE.is("in the dark 6 a round: never", -9, x.bestKind(5, 1));
    DUE.is("for ever as it is", 0, Due.townOf("hi9900;").bestKind(0, 0));
    x = Due.townOf("hp9900;x0;");
    DUE.is("a lost one: any is as late", 0, x.bestKind(0, 0));
    DUE.is("behind none", 0, x.bestKind(0, 1));
    x = Due.townOf("hp9900;d020;");
    DUE.is("lost as any kind", 0, x.bestKind(0, 0));
    DUE.is("behind 1", 1, x.bestKind(0, 1));
    DUE.is("kind stays", 1, x.house(0, 0));
  }

  private static void refusals() {
    RoomToSpare x = Due.townOf("hh0103;hh9900;");
    DUE.is("move(-1)", -4, x.move(-1));
    DUE.is("move(31)", -6, x.move(31));
    DUE.is("air(-1)", -4, x.air(-1));
    DUE.is("air(31)", -6, x.air(31));
    DUE.is("start(-1, 9)", -4, x.start(-1, 9));
    DUE.is("start(31, 9)", -6, x.start(31, 9));
    DUE.is("start(30, 2)", -2, x.start(30, 2));
    DUE.is("start(0, -1)", -2, x.start(0, -1));
    DUE.is("buy(-1)", -4, x.buy(-1));
    DUE.is("buy(31)", -6, x.buy(31));
    DUE.is("bestKind(2, 9)", -1, x.bestKind(2, 9));
    DUE.is("bestKind(-1, 0)", -1, x.bestKind(-1, 0));
    DUE.is("bestKind(0, 2)", -2, x.bestKind(0, 2));
    DUE.is("bestKind(0, -1)", -2, x.bestKind(0, -1));
    DUE.is("count(11)", 2, x.count(11));
    DUE.is("count(12)", 4, x.count(12));
    DUE.is("count(14)", 4, x.count(14));
    DUE.is("count(16)", 4, x.count(16));
  }
}
