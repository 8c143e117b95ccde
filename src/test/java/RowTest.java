/** Promises 29 to 36: the row, years by lot, the image, what is counted. */
public final class RowTest {
  private static final Due DUE = new Due();

  public static void main(String[] args) {
    row();
    whatIs();
    judge();
    lots();
    image();
    count();
    DUE.end();
  }

  private static void rowOf(RoomToSpare x, int... numbers) {
    x.clear();
    for (int v : numbers) {
      x.row(v);
    }
  }

  private static void row() {
    RoomToSpare x = new RoomToSpare();
    DUE.is("clear() of none", 0, x.clear());
    DUE.is("row(-1)", -4, x.row(-1));
    DUE.is("row(100)", -6, x.row(100));
    DUE.is("row(0)", 1, x.row(0));
    DUE.is("row(99)", 2, x.row(99));
    DUE.is("clear()", 2, x.clear());
    DUE.is("count(6)", 0, x.count(6));
    for (int i = 1; i <= 16; i++) {
      DUE.is("row(1)", i, x.row(1));
    }
    DUE.is("row(1) behind 16", -6, x.row(1));
    DUE.is("row(-1) behind 16", -4, x.row(-1));
    DUE.is("count(6)", 16, x.count(6));
    DUE.is("clear()", 16, x.clear());
    DUE.is("clear() again", 0, x.clear());
  }

  private static void whatIs() {
    RoomToSpare x = Due.townOf("hh9900;hg0900;hh9900;i2;");
    DUE.is("no row: any kind", 63, x.whatIs(1, 0));
    DUE.is("no row: any figure", 1023, x.whatIs(1, 1));
    rowOf(x, 1);
    DUE.is("its dust now is not so", 0, x.whatIs(1, 0));
    rowOf(x, 0);
    DUE.is("its dust now is", 63, x.whatIs(1, 0));
    rowOf(x, 0, 2);
    DUE.is("poor or ghost", 18, x.whatIs(1, 0));
    DUE.is("it stays", 2, x.count(6));
    rowOf(x, 0, 2, 2);
    DUE.is("a ghost, or none aired: ghost", 16, x.whatIs(1, 0));
    DUE.is("figure 0", 1, x.whatIs(1, 1));
    rowOf(x, 0, 2, 4);
    DUE.is("poor", 2, x.whatIs(1, 0));
    DUE.is("figures 1 .. 9", 1022, x.whatIs(1, 1));
    rowOf(x, 0, 3);
    DUE.is("miller or inn", 12, x.whatIs(1, 0));
    rowOf(x, 0, 1);
    DUE.is("a house", 1, x.whatIs(1, 0));
    rowOf(x, 0, 0);
    DUE.is("clean", 32, x.whatIs(1, 0));
    DUE.is("a ghost of no figure", 0, x.whatIs(1, 1));
    DUE.is("whatIs(3, 9)", -1, x.whatIs(3, 9));
    DUE.is("whatIs(-1, 0)", -1, x.whatIs(-1, 0));
    DUE.is("whatIs(0, 2)", -2, x.whatIs(0, 2));
    DUE.is("whatIs(0, -1)", -2, x.whatIs(0, -1));
    DUE.is("kind stays", 4, x.house(1, 0));
    DUE.is("figure stays", 0, x.house(1, 1));
  }

  private static void judge() {
    RoomToSpare x = Due.townOf("hh9900;hh9900;x1;");
    x.dents(0, 1);
    x.dents(1, 2);
    DUE.is("judge() of none", -9, x.judge());
    rowOf(x, 1, 2);
    DUE.is("judge() of 1, 2", -9, x.judge());
    DUE.is("the row has none then", 0, x.count(6));
    rowOf(x, 1);
    DUE.is("judge() of 1", -9, x.judge());
    rowOf(x, 1, 1);
    DUE.is("judge() of 1, 1", 1, x.judge());
    DUE.is("the row has none then", 0, x.count(6));
    rowOf(x, 0, 1);
    DUE.is("the first", 0, x.judge());
    rowOf(x, 1, 2, 0);
    DUE.is("no such house", 2, x.judge());
    x = new RoomToSpare();
    rowOf(x, 0);
    DUE.is("no houses", 0, x.judge());
  }

  private static void lots() {
    // A house that is never lost in 12 weeks: its people are the draw.
    RoomToSpare x = Due.townOf("hh9900;");
    DUE.is("z 0: 1013904223 by 256 modulo 31", 3, x.lots(1, 0, 1));
    DUE.is("z -1", 11, x.lots(1, -1, 1));
    DUE.is("z 1000 draws one below 0", 13, x.lots(1, 1000, 1));
    DUE.is("kept in one year", 1, x.lots(1, 0, 0));
    DUE.is("kept in 20 years", 20, x.lots(20, 0, 0));
    DUE.is("two years", 3 + second(0), x.lots(2, 0, 1));
    DUE.is("nothing is altered", 0, x.house(0, 3));
    x = Due.townOf("hh9900;hh9900;x0;");
    DUE.is("a lost house has a draw, too", 3 + second(0), x.lots(1, 0, 1));
    DUE.is("but is not kept", 1, x.lots(1, 0, 0));
    x = Due.townOf("hh9900;");
    x.dents(0, 9);
    DUE.is("dents 0 in each year", 5, x.lots(5, 3, 0));
    Due.tell(x, "d009;");
    DUE.is("dust stays: lost", 0, x.lots(5, 3, 0));
    DUE.is("no people then", 0, x.lots(5, 3, 1));
    // 60 candles are 10 weeks of light for six: house 5, seen in week 12, has 4 + 2 * 3 and is lost;
    // house 4, seen in 11, has 5 + 3; house 0, seen in 13, would be lost, too.
    x = Due.townOf("hh9900;hh9900;hh9900;hh9900;hh9900;hh9900;c060;");
    DUE.is("a year has 12 weeks", 5, x.lots(1, 0, 0));
    DUE.is("lots(0, 0, 9)", -4, x.lots(0, 0, 9));
    DUE.is("lots(21, 0, 9)", -6, x.lots(21, 0, 9));
    DUE.is("lots(20, 0, 2)", -2, x.lots(20, 0, 2));
    DUE.is("lots(1, 0, -1)", -2, x.lots(1, 0, -1));
    DUE.is("of none", 0, new RoomToSpare().lots(20, 9, 1));
  }

  /** The second draw below 31 behind a seed. */
  private static int second(int seed) {
    int z = seed * 1664525 + 1013904223;
    z = z * 1664525 + 1013904223;
    return (int) ((z & 0x7fffffffL) / 256 % 31);
  }

  private static void image() {
    RoomToSpare x = Due.townOf("hh9905;hi3107;d104;c077;w02;");
    DUE.is("on() without", -3, x.on());
    DUE.is("count(13)", 1, x.count(13));
    x.dents(0, 2);
    DUE.is("image()", 2, x.image());
    int[] before = all(x);
    Due.tell(x, "p009;x0;i1;c001;hh0101;hh0202;w03;");
    x.turn(1, 0, 0);
    x.dents(0, 0);
    x.row(5);
    x.letter('h');
    x.letter('h');
    DUE.is("count(1)", 5, x.count(1));
    DUE.is("on()", 2, x.on());
    int[] behind = all(x);
    for (int i = 0; i < before.length; i++) {
      DUE.is("as then " + i, before[i], behind[i]);
    }
    DUE.is("the row stays", 1, x.count(6));
    DUE.is("letters stay", 2, x.count(7));
    DUE.is("refusals stay", 1, x.count(13));
    x.weeks(7);
    DUE.is("on() again", 2, x.on());
    x.weeks(7);
    DUE.is("another image", 9, x.image());
    x.weeks(1);
    DUE.is("on() from it", 9, x.on());
    x = new RoomToSpare();
    x.image();
    Due.tell(x, "hh9905;d009;");
    x.dents(0, 2);
    DUE.is("on() to none", 0, x.on());
    DUE.is("no houses", 0, x.count(0));
    DUE.is("no such house", -1, x.house(0, 0));
    Due.tell(x, "hp1203;");
    DUE.is("a new one has no dust of the old", 0, x.house(0, 4) + x.house(0, 5));
  }

  private static int[] all(RoomToSpare x) {
    int[] all = new int[24];
    for (int what = 0; what < 6; what++) {
      all[what] = x.count(what);
    }
    for (int i = 0; i < 18; i++) {
      all[6 + i] = x.house(i / 9, i % 9);
    }
    return all;
  }

  private static void count() {
    RoomToSpare x = Due.townOf("hh9905;hi3107;hp0100;x1;i2;c123;w04;");
    x.row(1);
    x.letter('c');
    int[] due = {3, 4, 5, 12, 119, 0, 1, 1};
    for (int what = 0; what < due.length; what++) {
      DUE.is("count(" + what + ")", due[what], x.count(what));
    }
    int[] none = {-1, 8, 9, 10, 17, Integer.MIN_VALUE, Integer.MAX_VALUE};
    for (int what : none) {
      DUE.is("count(" + what + ")", -9, x.count(what));
    }
    x.airs(9);
    x.airs(1);
    x.spare(9);
    x.mean(9);
    x.candles(-1);
    x.candles(1000);
    x.candles(1000);
    x.candles(1000);
    int[] refused = {1, 2, 1, 1, 0, 3};
    for (int i = 0; i < refused.length; i++) {
      DUE.is("count(" + (11 + i) + ")", refused[i], x.count(11 + i));
    }
    DUE.is("a refused call alters nothing", 119, x.count(4));
  }
}
