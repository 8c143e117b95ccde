/** Promises 23 to 28: the town as it is, two who let, guests, the mean. */
public final class TownTest {
  private static final Due DUE = new Due();

  public static void main(String[] args) {
    spare();
    next();
    run();
    two();
    guest();
    mean();
    refusals();
    DUE.end();
  }

  private static void spare() {
    // Crowds 6, 8, 10, 7, 1, 21; all rooms by these less people: 6, 0, 10, 10, 2, 21.
    RoomToSpare x = Due.townOf("hh5312;hp2108;hm9430;hi0525;hg3907;hc8221;d304;d404;");
    DUE.is("more people", 49, x.spare(0));
    DUE.is("fullest", 5, x.spare(1));
    DUE.is("dustiest, of several the least", 3, x.spare(2));
    DUE.is("burnt in a week", 8, x.spare(3));
    DUE.is("50 by 8", 6, x.spare(4));
    x.keeps(5);
    x.keeps(3);
    DUE.is("more people in those kept", 18, x.spare(0));
    DUE.is("fullest kept", 2, x.spare(1));
    DUE.is("dustiest kept", 4, x.spare(2));
    DUE.is("burnt by those kept", 4, x.spare(3));
    DUE.is("50 by 4", 12, x.spare(4));
    x = Due.townOf("hp0203;hp0203;");
    DUE.is("of several the least", 0, x.spare(1));
    DUE.is("no dust: the least", 0, x.spare(2));
    DUE.is("none burnt", 0, x.spare(3));
    DUE.is("none burnt: 99", 99, x.spare(4));
    x = Due.townOf("hh0100;c999;");
    DUE.is("no bound to it", 999, x.spare(4));
    DUE.is("nobody sleeps there: none more", 0, x.spare(0));
    x.keeps(0);
    DUE.is("none kept: fullest", -9, x.spare(1));
    DUE.is("none kept: dustiest", -9, x.spare(2));
    DUE.is("none kept: lasts", 99, x.spare(4));
  }

  private static void next() {
    RoomToSpare x = Due.townOf("hh0100;hh0100;hh0100;hh0100;x1;x3;");
    int[] due = {2, 2, 0, 0};
    for (int i = 0; i < due.length; i++) {
      DUE.is("next(" + i + ")", due[i], x.next(i));
    }
    x.keeps(2);
    DUE.is("not itself", -9, x.next(0));
    DUE.is("round", 0, x.next(1));
  }

  private static void run() {
    RoomToSpare x = Due.townOf("hh0103;hh0100;hh0103;hh0100;hh0102;");
    DUE.is("none lost", 0, x.run(0));
    DUE.is("without people", 10, x.run(1));
    DUE.is("crowded", 5, x.run(2));
    x.keeps(2);
    DUE.is("one lost", 1, x.run(0));
    DUE.is("crowded and kept", 1, x.run(2));
    x.keeps(1);
    DUE.is("two lost", 2, x.run(0));
    DUE.is("a lost one without people, too", 10, x.run(1));
    x.keeps(1);
    x.keeps(0);
    x.keeps(4);
    DUE.is("round: 4, 0", 2, x.run(0));
    x.keeps(3);
    DUE.is("round: 2, 3, 4, 0", 4, x.run(0));
    x.keeps(1);
    DUE.is("all", 5, x.run(0));
    DUE.is("none crowded", 0, x.run(2));
    DUE.is("of none", 0, new RoomToSpare().run(0));
  }

  private static void two() {
    RoomToSpare x = Due.townOf("hh0203;hh0203;");
    DUE.is("both let", 11, x.two(0, 1, 0));
    DUE.is("both let and have no child", 11, x.two(0, 1, 30));
    // 6 dust and 3 and 1 are lost in week 1.
    x = Due.townOf("hh9900;hh9900;d006;");
    DUE.is("the dusty one had better not", 1, x.two(0, 1, 1));
    DUE.is("told the other way", 10, x.two(1, 0, 1));
    x = Due.townOf("hh9900;hh9900;d006;d105;");
    DUE.is("neither", 0, x.two(0, 1, 2));
    DUE.is("within none both", 11, x.two(0, 1, 0));
    DUE.is("nothing is altered", 6, x.house(0, 4));
    x = Due.townOf("hh9900;hh9900;d005;d105;");
    DUE.is("5 and 3 and 1 are aired", 11, x.two(0, 1, 1));
    DUE.is("lost ones let", 11, Due.townOf("hh9900;hh9900;x0;x1;").two(0, 1, 9));
    // A child found in each of weeks 1, 2: 5 - 2 without, 5 + 2 with letting, but lost by dust.
    x = Due.townOf("hh0203;hh9900;d007;");
    DUE.is("dents count", 11, x.two(0, 1, 0));
    DUE.is("kept with a dent is 4, lost with none 2", 1, x.two(0, 1, 1));
    // Not letting, house 0 is kept with a dent a week: 2 behind 3 weeks, 1 behind 4. Letting, it is
    // lost in week 1 by its dust, without a dent: 2.
    x = Due.townOf("hh0203;hh9900;hh9900;hh9900;d007;");
    DUE.is("2 either way: the first pair", 1, x.two(0, 1, 3));
    DUE.is("1 against 2", 11, x.two(0, 1, 4));
    x = Due.townOf("hi5526;hp3106;hm9401;d005;c107;");
    DUE.is("no such pair", -9, x.two(0, 2, 22));
    // House 1 is lost in week 4 by its dents: -4. If it lets, in week 2 by its dust: 0; but then its
    // 30 people are found twice in house 0, which has 2 less, whether it lets or not.
    x = Due.townOf("hh0100;hc0330;d107;");
    DUE.is("5 without the other's letting is not 3 with it", 11, x.two(0, 1, 4));
    DUE.is("told the other way", 11, x.two(1, 0, 4));
    // House 1 is lost in week 3 by its dents and sends 6 people to house 0: two dents. If it lets,
    // three sleep in each room: no dents, and it is kept.
    x = Due.townOf("hm0100;hp9206;i1;");
    DUE.is("7 with the other's letting is not 5 without it", 11, x.two(0, 1, 5));
    DUE.is("told the other way", 11, x.two(1, 0, 5));
    // 20 at most: 19 and 3 are 20 as well.
    x = Due.townOf("hh9900;hh9900;d019;i1;");
    DUE.is("dust at most", 11, x.two(0, 1, 1));
  }

  private static void fraction(RoomToSpare x, int n, int t, long above, long below) {
    DUE.is("guest(0, " + n + ", " + t + ", 0)", above, x.guest(0, n, t, 0));
    DUE.is("guest(0, " + n + ", " + t + ", 1)", below, x.guest(0, n, t, 1));
  }

  private static void guest() {
    RoomToSpare x = Due.townOf("hh9900;");
    x.dents(0, 2);
    fraction(x, 0, 2, 1, 1);
    fraction(x, 1, 3, 2, 3);
    fraction(x, 2, 3, 4, 9);
    fraction(x, 7, 20, 893871739, 1280000000);
    x.dents(0, 1);
    fraction(x, 2, 2, 3, 4);
    fraction(x, 2, 3, 8, 9);
    fraction(x, 3, 2, 1, 2);
    x.dents(0, 0);
    fraction(x, 2, 2, 1, 1);
    fraction(x, 3, 2, 7, 8);
    DUE.is("nothing is altered", 0, x.house(0, 5));
    x.dents(0, 9);
    fraction(x, 1, 2, 0, 1);
    x.dents(0, 0);
    x.keeps(0);
    fraction(x, 0, 2, 0, 1);
    fraction(x, 7, 20, 0, 1);
    // Seen in week 2 of two: a dent ahead of either counts.
    x = Due.townOf("hh9900;hh9900;i1;");
    x.dents(0, 2);
    fraction(x, 1, 2, 1, 1);
    fraction(x, 2, 2, 1, 4);
    fraction(x, 3, 2, 1, 4);
    DUE.is("without strangers both are kept", 3, x.then(2, 0));
  }

  private static void mean() {
    RoomToSpare x = Due.townOf("hh9912;hh9908;hh9930;");
    DUE.is("50 above", 50, x.mean(0));
    DUE.is("by 3", 3, x.mean(1));
    x.peoples(0, 10);
    DUE.is("48 by 3 is 16", 16, x.mean(0));
    DUE.is("by 1", 1, x.mean(1));
    x.keeps(0);
    DUE.is("a lost one's people count", 16, x.mean(0));
    x = Due.townOf("hh9900;hh9900;");
    DUE.is("0", 0, x.mean(0));
    DUE.is("by 1", 1, x.mean(1));
    x = Due.townOf("hh9907;");
    DUE.is("7 of one", 7, x.mean(0));
    DUE.is("of one by 1", 1, x.mean(1));
    DUE.is("of none", 0, new RoomToSpare().mean(0));
    DUE.is("of none by 1", 1, new RoomToSpare().mean(1));
  }

  private static void refusals() {
    RoomToSpare x = Due.townOf("hh0103;hh9900;");
    DUE.is("spare(5)", -2, x.spare(5));
    DUE.is("spare(-1)", -2, x.spare(-1));
    DUE.is("next(2)", -1, x.next(2));
    DUE.is("next(-1)", -1, x.next(-1));
    DUE.is("run(3)", -2, x.run(3));
    DUE.is("run(-1)", -2, x.run(-1));
    DUE.is("two(0, 0, -1)", -1, x.two(0, 0, -1));
    DUE.is("two(0, 2, 99)", -1, x.two(0, 2, 99));
    DUE.is("two(2, 0, 0)", -1, x.two(2, 0, 0));
    DUE.is("two(-1, 0, 0)", -1, x.two(-1, 0, 0));
    DUE.is("two(0, 1, -1)", -4, x.two(0, 1, -1));
    DUE.is("two(0, 1, 31)", -6, x.two(0, 1, 31));
    long no = 4000000000000000000L;
    DUE.is("guest(2, -1, 1, 2)", no + 1, x.guest(2, -1, 1, 2));
    DUE.is("guest(0, -1, 21, 2)", no + 4, x.guest(0, -1, 21, 2));
    DUE.is("guest(0, 8, 1, 2)", no + 4, x.guest(0, 8, 1, 2));
    DUE.is("guest(0, 8, 20, 2)", no + 6, x.guest(0, 8, 20, 2));
    DUE.is("guest(0, 7, 21, 2)", no + 6, x.guest(0, 7, 21, 2));
    DUE.is("guest(0, 7, 20, 2)", no + 2, x.guest(0, 7, 20, 2));
    DUE.is("guest(0, 0, 2, -1)", no + 2, x.guest(0, 0, 2, -1));
    DUE.is("mean(2)", no + 2, x.mean(2));
    DUE.is("mean(-1)", no + 2, x.mean(-1));
    int[] due = {7, 8, 0, 3, 0, 3};
    for (int i = 0; i < due.length; i++) {
      DUE.is("count(" + (11 + i) + ")", due[i], x.count(11 + i));
    }
  }
}
