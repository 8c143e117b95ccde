/** Promises 12 to 17: weeks that go by, and those that go by in mind. */
public final class WeeksTest {
  private static final Due DUE = new Due();

  public static void main(String[] args) {
    kindsInOneWeek();
    ghostWeeks();
    candlesByNumbers();
    dustAndDentsAtMost();
    inspector();
    peopleOfALostHouse();
    bounds();
    inMind();
    lost();
    dark();
    still();
    DUE.end();
  }

  private static void kindsInOneWeek() {
    int[] lit = {1, 2, 3, 3, 2, 0};
    int[] unlit = {3, 2, 7, 7, 5, 1};
    int[] burnt = {1, 0, 2, 3, 1, 1};
    for (int kind = 0; kind < 6; kind++) {
      RoomToSpare x = Due.townOf("hh0100;hh5100;x0;");
      x.turn(1, kind, 5);
      DUE.is("weeks(1)", 1, x.weeks(1));
      DUE.is("dust of kind " + kind, lit[kind], x.house(1, 4));
      DUE.is("candles of kind " + kind, 50 - burnt[kind], x.count(4));
      x = Due.townOf("hh0100;hh5100;x0;");
      x.turn(1, kind, 5);
      x.candles(Math.max(0, burnt[kind] - 1));
      x.weeks(1);
      DUE.is("dust of kind " + kind + " without light", unlit[kind], x.house(1, 4));
      DUE.is("candles without light", Math.max(0, burnt[kind] - 1), x.count(4));
      x = Due.townOf("hh0100;hh5100;x0;");
      x.turn(1, kind, 5);
      x.candles(burnt[kind]);
      x.weeks(1);
      DUE.is("dust of kind " + kind + " with just enough", lit[kind], x.house(1, 4));
      DUE.is("candles with just enough", 0, x.count(4));
    }
  }

  private static void ghostWeeks() {
    // Figure 0: none in weeks that 2 divides; figure 1: 3. House 5 is seen in week 6.
    RoomToSpare x = Due.townOf("hh0100;hh0100;hh0100;hh0100;hg0100;hg1100;x0;x1;x2;x3;");
    int[] even = {0, 2, 2, 4, 4};
    int[] third = {0, 2, 4, 4, 6, 8};
    for (int n = 0; n < even.length; n++) {
      DUE.is("ghost of figure 0 behind " + n, even[n], x.houseThen(4, n, 0));
    }
    for (int n = 0; n < third.length; n++) {
      DUE.is("ghost of figure 1 behind " + n, third[n], x.houseThen(5, n, 0));
    }
    x.candles(0);
    DUE.is("without light 5, then 1", 6, x.houseThen(4, 2, 0));
    x = Due.townOf("hh0100;hg9100;x0;w10;");
    x.airs(1);
    DUE.is("week 11 for figure 9", 0, x.houseThen(1, 1, 0));
  }

  private static void candlesByNumbers() {
    RoomToSpare x = Due.townOf("hh0100;hm5100;hh5100;x0;c001;w01;");
    DUE.is("1 candle is too few for a miller: dust", 7, x.house(1, 4));
    DUE.is("and is there for the next", 1, x.house(2, 4));
    DUE.is("candles", 0, x.count(4));
    x = Due.townOf("hh0100;hm5100;hh5100;x0;c002;w01;");
    DUE.is("2 are enough: dust", 3, x.house(1, 4));
    DUE.is("none for the next", 3, x.house(2, 4));
    x = Due.townOf("hh5100;hh5100;x0;c009;w01;");
    DUE.is("a lost house burns none", 8, x.count(4));
    DUE.is("and has no more dust", 0, x.house(0, 4));
  }

  private static void dustAndDentsAtMost() {
    RoomToSpare x = Due.townOf("hh0100;hi0100;x0;d119;w01;");
    DUE.is("20 at most", 20, x.house(1, 4));
    x = Due.townOf("hh0100;hi0100;x0;d119;c000;w01;");
    DUE.is("20 at most without light", 20, x.house(1, 4));
    x = Due.townOf("hh0100;hh0103;x0;");
    x.dents(1, 8);
    x.weeks(1);
    DUE.is("a dent more", 9, x.house(1, 5));
    x = Due.townOf("hh0100;hh0103;x0;");
    x.dents(1, 9);
    x.weeks(1);
    DUE.is("9 at most", 9, x.house(1, 5));
    x = Due.townOf("hh0100;hh0102;x0;w01;");
    DUE.is("no child, no dent", 0, x.house(1, 5));
    x = Due.townOf("hh0100;hh0103;x1;w01;");
    DUE.is("no dent in a lost house", 0, x.house(1, 5));
  }

  private static void inspector() {
    RoomToSpare x = Due.townOf("hh9100;hh9100;d008;");
    DUE.is("dust 9 is aired", 2, x.weeks(1));
    DUE.is("dust", 0, x.house(0, 4));
    DUE.is("he is at the next", 1, x.count(5));
    DUE.is("week", 1, x.count(1));
    x = Due.townOf("hh9100;hh9100;d009;");
    DUE.is("dust 10 is lost", 1, x.weeks(1));
    DUE.is("kept", 2, x.count(2));
    DUE.is("dust of the lost one stays", 10, x.house(0, 4));
    x = Due.townOf("hh9100;hh9100;");
    x.dents(0, 2);
    DUE.is("2 dents are kept", 2, x.weeks(1));
    x.visits(0);
    x.dents(0, 3);
    DUE.is("3 dents are lost", 1, x.weeks(1));
    DUE.is("its dents stay", 3, x.house(0, 5));
    x = Due.townOf("hh9100;hh9100;d109;d009;x0;w01;");
    DUE.is("at a lost house nothing", 10, x.house(1, 4));
    DUE.is("nor is it aired", 9, x.house(0, 4));
    DUE.is("he is at the next", 1, x.count(5));
    DUE.is("then he is round", 0, x.weeks(1));
    DUE.is("at 0", 0, x.count(5));
    x = new RoomToSpare();
    DUE.is("weeks(3) of none", 0, x.weeks(3));
    DUE.is("at 0 yet", 0, x.count(5));
    Due.tell(x, "hh9100;hh9100;");
    x.weeks(1);
    DUE.is("then at 1", 1, x.count(5));
  }

  private static void peopleOfALostHouse() {
    RoomToSpare x = Due.townOf("hh9907;hh9901;hh9902;hh9903;x1;d219;i2;w01;");
    DUE.is("none in the lost one", 0, x.house(2, 3));
    DUE.is("all in the next", 5, x.house(3, 3));
    x = Due.townOf("hh9907;hh9901;hh9902;hh9903;x0;d319;i3;w01;");
    DUE.is("round, behind a lost one", 4, x.house(1, 3));
    DUE.is("the lost one's people stay", 7, x.house(0, 3));
    x = Due.townOf("hh9920;hh9920;d019;w01;");
    DUE.is("30 at most", 30, x.house(1, 3));
    DUE.is("who has no room goes away", 30, x.count(3));
    x = Due.townOf("hh9920;hh9920;d019;x1;w01;");
    DUE.is("no other kept: all go", 20, x.count(3));
    DUE.is("those of the other stay", 20, x.house(1, 3));
    x = Due.townOf("hh9920;d019;w01;");
    DUE.is("the only one", 0, x.count(3));
  }

  private static void bounds() {
    RoomToSpare x = Due.townOf("hc9100;");
    DUE.is("weeks(0)", -4, x.weeks(0));
    DUE.is("weeks(-1)", -4, x.weeks(-1));
    DUE.is("weeks(61)", -6, x.weeks(61));
    DUE.is("weeks(greatest)", -6, x.weeks(Integer.MAX_VALUE));
    for (int i = 0; i < 16; i++) {
      DUE.is("weeks(60)", 1, x.weeks(60));
    }
    DUE.is("weeks(40) to 1000", -6, x.weeks(40));
    DUE.is("weeks(39) to 999", 1, x.weeks(39));
    DUE.is("weeks(1) to 1000", -6, x.weeks(1));
    DUE.is("count(1)", 999, x.count(1));
    DUE.is("count(16)", 4, x.count(16));
    DUE.is("in thought week may pass 999", 1, x.then(60, 0));
    x.turn(0, 4, 0);
    DUE.is("a ghost in week 1000, aired", 0, x.houseThen(0, 1, 0));
  }

  private static void inMind() {
    RoomToSpare x = Due.townOf("hh0103;hh9101;");
    // House 0 has a dent a week and is lost in week 3; its people go to 1.
    int[][] due = {{0, 0, 3, 0, 0, 1}, {0, 1, 3, 1, 0, 1}, {1, 2, 3, 0, 0, 1}, {2, 3, 0, 1, 0, 4}};
    for (int n = 0; n < due.length; n++) {
      for (int i = 0; i < 6; i++) {
        String call = "houseThen(" + i / 3 + ", " + n + ", " + i % 3 + ")";
        DUE.is(call, due[n][i], x.houseThen(i / 3, n, i % 3));
      }
    }
    int[][] town = {{3, 50, 0}, {3, 48, 1}, {3, 46, 0}, {2, 44, 1}, {2, 43, 0}};
    for (int n = 0; n < town.length; n++) {
      for (int what = 0; what < 3; what++) {
        DUE.is("then(" + n + ", " + what + ")", town[n][what], x.then(n, what));
      }
    }
    DUE.is("nothing is altered", 0, x.count(1));
    DUE.is("houseThen(2, 0, 0)", -1, x.houseThen(2, 0, 0));
    DUE.is("houseThen(2, -1, 5)", -1, x.houseThen(2, -1, 5));
    DUE.is("houseThen(0, -1, 5)", -4, x.houseThen(0, -1, 5));
    DUE.is("houseThen(0, 61, 5)", -6, x.houseThen(0, 61, 5));
    DUE.is("houseThen(0, 60, 3)", -2, x.houseThen(0, 60, 3));
    DUE.is("houseThen(0, 60, -1)", -2, x.houseThen(0, 60, -1));
    DUE.is("then(-1, 5)", -4, x.then(-1, 5));
    DUE.is("then(61, 5)", -6, x.then(61, 5));
    DUE.is("then(60, 3)", -2, x.then(60, 3));
    DUE.is("then(60, -1)", -2, x.then(60, -1));
    DUE.is("then(0, 2) of none", -9, new RoomToSpare().then(0, 2));
    DUE.is("then(9, 1) of none", 50, new RoomToSpare().then(9, 1));
  }

  private static void lost() {
    RoomToSpare x = Due.townOf("hh9101;hh0103;hh0103;x2;");
    // House 1 is seen in weeks 2, 5: lost in 5, with 3 people more for house 0, which bears them.
    DUE.is("lost(0)", -9, x.lost(0));
    DUE.is("lost(1)", 5, x.lost(1));
    DUE.is("lost(2)", 0, x.lost(2));
    DUE.is("first of those kept", 1, x.lost(-1));
    DUE.is("lost(3)", -1, x.lost(3));
    DUE.is("lost(-2)", -1, x.lost(-2));
    DUE.is("lost(least)", -1, x.lost(Integer.MIN_VALUE));
    DUE.is("first of none", -9, new RoomToSpare().lost(-1));
    DUE.is("house 0 is the first", 0, Due.townOf("hh0103;hh0103;").lost(-1));
    x = Due.townOf("hc9100;x0;");
    DUE.is("none kept", -9, x.lost(-1));
    // Four burn 4 a week; each is seen every fourth week.
    x = Due.townOf("hh9900;hh9900;hh9900;hh9900;c240;");
    DUE.is("lit for 60 weeks", -9, x.lost(-1));
    x.candles(232);
    // Unlit from week 59 on; house 3 is seen in 60 with 1 + 1 + 3 + 3, house 0 in 61.
    DUE.is("not within 60", -9, x.lost(-1));
    x.candles(228);
    // Unlit from week 58 on: house 3, seen in 60, has 1 + 3 * 3.
    DUE.is("lost(3) behind 60", 60, x.lost(3));
    DUE.is("first behind 60", 3, x.lost(-1));
  }

  private static void dark() {
    RoomToSpare x = Due.townOf("hh9900;c010;");
    DUE.is("dark() of 10", 10, x.dark());
    x.candles(0);
    DUE.is("dark() of 0", 0, x.dark());
    x.candles(60);
    DUE.is("dark() of 60", 60, x.dark());
    x.candles(61);
    DUE.is("dark() of 61", -9, x.dark());
    x.turn(0, 1, 9);
    x.candles(0);
    DUE.is("a poor house burns none", -9, x.dark());
    DUE.is("dark() of none", -9, new RoomToSpare().dark());
    x = Due.townOf("hi9900;hm9900;c014;");
    DUE.is("14 by 5", 2, x.dark());
    x.keeps(0);
    DUE.is("14 by 2", 7, x.dark());
    x.keeps(1);
    DUE.is("all lost", -9, x.dark());
  }

  private static void still() {
    DUE.is("still() of none", 0, new RoomToSpare().still());
    DUE.is("kept for ever", 0, Due.townOf("hc9900;").still());
    DUE.is("lost in week 3", 3, Due.townOf("hh0103;").still());
    DUE.is("two, lost in 3 and 4", 4, Due.townOf("hh0103;hh0103;").still());
    RoomToSpare x = Due.townOf("hh9900;hh9900;hh9900;hh9900;c100;");
    // Unlit from week 26 on: house 3, seen in 28, is the first; 0, 1, 2 follow.
    DUE.is("lost(3)", 28, x.lost(3));
    DUE.is("lost(2)", 31, x.lost(2));
    DUE.is("the same 20 weeks on", 0, x.still());
    x.candles(60);
    // Unlit from week 16 on: lost in 18, 19, 20, 21.
    DUE.is("two behind 19", 2, Integer.bitCount(x.then(19, 0)));
    DUE.is("still with the last", 21, x.still());
    // Unlit from week 19 on: lost in 21 first; from 18 on: in 20, 21, 22, 23.
    x.candles(72);
    DUE.is("all are kept behind 20", 0, x.still());
    x.candles(68);
    DUE.is("one is lost in 20", 23, x.still());
    x = Due.townOf("w10;hc4807;hg1215;hc4102;hc2601;hc3812;hg3705;c166;i2;");
    // Lost behind 16, 36, 43, 50, 57 and later: always one within 20 weeks.
    DUE.is("lost(5)", 16, x.lost(5));
    DUE.is("lost(4)", 57, x.lost(4));
    DUE.is("never still", -9, x.still());
  }
}
