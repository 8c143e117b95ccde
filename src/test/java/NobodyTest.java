/** Houses of a text with a fault, and houses that came behind the image, are nobody to every call. */
public final class NobodyTest {
  private static final long NO_LONG = 4000000000000000001L;
  private static final Due DUE = new Due();

  public static void main(String[] args) {
    RoomToSpare x = new RoomToSpare();
    DUE.is("the last statement has no such house", -2014, Due.tell(x, "hh0103;hh0103;p500;"));
    nobodyIn("fault", x);

    x = new RoomToSpare();
    DUE.is("image without houses", 0, x.image());
    DUE.is("two come", 2, Due.tell(x, "hh0103;hh0103;"));
    DUE.is("on", 0, x.on());
    nobodyIn("on", x);

    oneStays();
    DUE.end();
  }

  private static void nobodyIn(String why, RoomToSpare x) {
    String of = why + ": ";
    DUE.is(of + "count(0)", 0, x.count(0));
    DUE.is(of + "house", -1, x.house(0, 0));
    DUE.is(of + "peoples", -1, x.peoples(0, 0));
    DUE.is(of + "airs", -1, x.airs(0));
    DUE.is(of + "dents", -1, x.dents(0, 0));
    DUE.is(of + "keeps", -1, x.keeps(0));
    DUE.is(of + "visits", -1, x.visits(0));
    DUE.is(of + "turn", -1, x.turn(0, 0, 0));
    DUE.is(of + "next", -1, x.next(0));
    DUE.is(of + "two", -1, x.two(0, 1, 0));
    DUE.is(of + "guest", NO_LONG, x.guest(0, 0, 2, 0));
    DUE.is(of + "whatIs", -1, x.whatIs(0, 0));
    DUE.is(of + "bestKind", -1, x.bestKind(0, 0));
    DUE.is(of + "lost", -1, x.lost(0));
    DUE.is(of + "houseThen", -1, x.houseThen(0, 0, 0));
    DUE.is(of + "row", 1, x.row(0));
    DUE.is(of + "judge: none there", 0, x.judge());
    DUE.is(of + "count(11)", 14, x.count(11));
  }

  /** A house of its own stays as it was when a text with one more has a fault. */
  private static void oneStays() {
    RoomToSpare x = Due.townOf("hh9907;");
    DUE.is("no rooms in the second of two", -2007, Due.tell(x, "hh0103;hh0003;"));
    DUE.is("one house", 1, x.count(0));
    DUE.is("the other is nobody", -1, x.house(1, 0));
    DUE.is("nor the second of two", -1, x.two(0, 1, 0));
    DUE.is("nor the first of two", -1, x.two(1, 0, 0));
    DUE.is("nor the next one", -9, x.next(0));
    DUE.is("7 by 1", 7, x.mean(0));
    DUE.is("7 by 1", 1, x.mean(1));
    // The DRAW from seed 0: 1013904223 by 256, cut, is 3960563; modulo 31 it is 3.
    DUE.is("people are drawn for one", 3, x.lots(1, 0, 1));
  }
}
