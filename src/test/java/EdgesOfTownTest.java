/** The document's words from HOUSES to the FAULT, one behind the other. */
public final class EdgesOfTownTest {
  private static final Reading DOC = new Reading("HOUSES 0 .. as", "CROWD of a HOUSE:");
  private static final String SIX = "hh0100;hp0100;hm0100;hi0100;hg0100;hc0100;";

  public static void main(String[] args) {
    whatHousesAre();
    whatTheTownHas();
    lettersAndStatements();
    statementsOfHouses();
    statementsOfTheTown();
    faultsOfKindOne();
    faultsOfKindTwo();
    allOrNothing();
    DOC.end();
  }

  private static void told(String text, int due) {
    DOC.is("town() of " + text, due, Due.tell(new RoomToSpare(), text));
  }

  private static void more(RoomToSpare x, String text, int due) {
    DOC.is("then town() of " + text, due, Due.tell(x, text));
  }

  private static void whatHousesAre() {
    DOC.says("HOUSES 0 .. as they come (6 at most)");
    RoomToSpare x = Due.townOf("hh0100;hp0100;hm0100;hi0100;hg0100;");
    DOC.is("count(0)", 5, x.count(0));
    more(x, "hc0100;", 1);
    DOC.is("count(0)", 6, x.count(0));
    for (int i = 0; i < 6; i++) {
      DOC.is("house(" + i + ", 0)", i, x.house(i, 0));
    }
    more(x, "hh0100;", -2000);
    DOC.is("count(0)", 6, x.count(0));
    DOC.is("house(6, 0)", -1, x.house(6, 0));

    DOC.says("in a ring (behind the last is 0)");
    x = Due.townOf("hh9900;hh9900;i1;");
    DOC.is("next(1)", 0, x.next(1));
    x.weeks(1);
    DOC.is("count(5)", 0, x.count(5));

    DOC.says("KIND, FIGURE (0 .. 9)");
    x = Due.townOf("hc0100;hh9100;");
    DOC.is("house(0, 0)", 5, x.house(0, 0));
    DOC.is("house(0, 1)", 0, x.house(0, 1));
    DOC.is("house(1, 1)", 9, x.house(1, 1));

    DOC.says("ROOMS (1 .. 9, THE ROOM counted)");
    told("hh0000;", -2000);
    x = Due.townOf("hh0106;hh0906;hh0206;");
    DOC.is("house(0, 2)", 1, x.house(0, 2));
    DOC.is("house(1, 2)", 9, x.house(1, 2));
    DOC.is("two rooms, one of them THE ROOM: the crowd of 6", 6, x.house(2, 7));

    DOC.says("PEOPLE (0 .. 30)");
    told("hh0131;", -2000);
    x = Due.townOf("hh0130;hh0100;");
    DOC.is("house(0, 3)", 30, x.house(0, 3));
    DOC.is("house(1, 3)", 0, x.house(1, 3));

    DOC.says("DUST (0 .. 20; 0 at first) in THE ROOM");
    DOC.is("house(1, 4)", 0, x.house(1, 4));
    more(x, "d120;", 1);
    DOC.is("house(1, 4)", 20, x.house(1, 4));
    more(x, "d121;", -2000);
    x.weeks(1);
    DOC.is("a week on", 20, x.house(1, 4));

    DOC.says("DENTS (0 .. 9; 0 at first)");
    x = Due.townOf("hh0130;hh0130;");
    DOC.is("house(1, 5)", 0, x.house(1, 5));
    DOC.is("dents(1, 10)", -6, x.dents(1, 10));
    DOC.is("dents(1, 9)", 0, x.dents(1, 9));
    x.weeks(1);
    DOC.is("a week on", 9, x.house(1, 5));

    DOC.says("KEPT (at first) or LOST");
    x = Due.townOf("hh0100;");
    DOC.is("house(0, 6)", 1, x.house(0, 6));
    x.keeps(0);
    DOC.is("house(0, 6)", 0, x.house(0, 6));
  }

  private static void whatTheTownHas() {
    DOC.says("THE INSPECTOR is at a HOUSE (0 at first)");
    RoomToSpare x = Due.townOf("hh0100;hh0100;");
    DOC.is("count(5)", 0, x.count(5));
    DOC.is("then(0, 2)", 0, x.then(0, 2));
    x.visits(1);
    DOC.is("count(5)", 1, x.count(5));

    DOC.says("CANDLES (0 .. 999; 50 at first): what the town has");
    DOC.is("count(4)", 50, x.count(4));
    more(x, "c999;", 1);
    DOC.is("count(4)", 999, x.count(4));
    more(x, "c000;w01;", 2);
    DOC.is("count(4)", 0, x.count(4));

    DOC.says("WEEK (0 .. 999; 0 at first)");
    x = inWeek(999);
    DOC.is("new: count(1)", 0, new RoomToSpare().count(1));
    DOC.is("count(1)", 999, x.count(1));
    DOC.is("weeks(1)", -6, x.weeks(1));
    DOC.is("count(1)", 999, x.count(1));
  }

  private static RoomToSpare inWeek(int week) {
    RoomToSpare x = Due.townOf("hc9900;");
    while (x.count(1) < week) {
      x.weeks(Math.min(60, week - x.count(1)));
    }
    return x;
  }

  private static void lettersAndStatements() {
    DOC.says("A TOWN is told in letters, one by one (96 at most)");
    RoomToSpare x = new RoomToSpare();
    for (int i = 1; i <= 96; i++) {
      DOC.is("letter", i, x.letter("w01;".charAt((i - 1) % 4)));
    }
    DOC.is("the 97th", -6, x.letter('w'));
    DOC.is("town()", 24, x.town());
    DOC.is("count(1)", 24, x.count(1));

    DOC.says("STATEMENTS, each with \";\" behind");
    told("w01;", 1);
    told("w01;w01;", 2);
    told("w01", -1003);
    told("w01;w01", -1007);
    told("w01w01;", -1003);
    told("w01,w01;", -1003);
    told("w01;;w01;", -1004);
  }

  private static void statementsOfHouses() {
    DOC.says("\"h\" a letter of a KIND, FIGURE, ROOMS (a digit each), PEOPLE (2 digits)");
    RoomToSpare x = Due.townOf("hm7430;");
    int[] due = {2, 7, 4, 30};
    for (int what = 0; what < due.length; what++) {
      DOC.is("house(0, " + what + ")", due[what], x.house(0, what));
    }
    told("hk7430;", -1001);
    told("hH7430;", -1001);
    told("h77430;", -1001);
    told("hma430;", -1002);
    told("hm7a30;", -1003);
    told("hm743;", -1005);
    told("hm74300;", -1006);

    DOC.says("a HOUSE more");
    DOC.is("count(0)", 1, x.count(0));
    more(x, "hp0900;", 1);
    DOC.is("count(0)", 2, x.count(0));
    DOC.is("house(0, 0)", 2, x.house(0, 0));
    DOC.is("house(1, 0)", 1, x.house(1, 0));

    DOC.says("\"p\" a HOUSE (a digit), PEOPLE (2 digits)");
    x = Due.townOf("hh0100;hh0100;");
    more(x, "p130;p005;", 2);
    DOC.is("house(0, 3)", 5, x.house(0, 3));
    DOC.is("house(1, 3)", 30, x.house(1, 3));
    more(x, "p100;", 1);
    DOC.is("house(1, 3)", 0, x.house(1, 3));
    more(x, "p;", -1001);
    more(x, "p15;", -1003);
    more(x, "p1005;", -1004);

    DOC.says("\"d\" a HOUSE (a digit), DUST (2 digits)");
    more(x, "d120;d009;", 2);
    DOC.is("house(0, 4)", 9, x.house(0, 4));
    DOC.is("house(1, 4)", 20, x.house(1, 4));
    more(x, "d100;", 1);
    DOC.is("house(1, 4)", 0, x.house(1, 4));
    more(x, "d;", -1001);
    more(x, "d19;", -1003);
    more(x, "d1009;", -1004);

    DOC.says("\"x\" a HOUSE (a digit): KEPT, or, told again, LOST");
    more(x, "x1;", 1);
    DOC.is("KEPT at first: now LOST", 0, x.house(1, 6));
    DOC.is("the other is as it was", 1, x.house(0, 6));
    more(x, "x1;", 1);
    DOC.is("told again", 1, x.house(1, 6));
    more(x, "x1;x1;x1;", 3);
    DOC.is("told three times", 0, x.house(1, 6));
    more(x, "x;", -1001);
    more(x, "x11;", -1002);
  }

  private static void statementsOfTheTown() {
    DOC.says("\"i\" a HOUSE (a digit): THE INSPECTOR is there");
    RoomToSpare x = Due.townOf("hh9900;hh9900;x1;");
    more(x, "i1;", 1);
    DOC.is("count(5)", 1, x.count(5));
    more(x, "i0;", 1);
    DOC.is("count(5)", 0, x.count(5));
    more(x, "i;", -1001);
    more(x, "i01;", -1002);

    DOC.says("\"c\" CANDLES (3 digits)");
    more(x, "c999;", 1);
    DOC.is("count(4)", 999, x.count(4));
    more(x, "c012;", 1);
    DOC.is("count(4)", 12, x.count(4));
    more(x, "c000;", 1);
    DOC.is("count(4)", 0, x.count(4));
    more(x, "c;", -1001);
    more(x, "c99;", -1003);
    more(x, "c1000;", -1004);

    DOC.says("\"w\" WEEKS (2 digits, 1 .. 60): they go by");
    more(x, "w00;", -2000);
    DOC.is("count(1)", 0, x.count(1));
    more(x, "w01;", 1);
    DOC.is("count(1)", 1, x.count(1));
    DOC.is("count(5)", 1, x.count(5));
    more(x, "w60;", 1);
    DOC.is("count(1)", 61, x.count(1));
    more(x, "w61;", -2000);
    more(x, "w99;", -2000);
    DOC.is("count(1)", 61, x.count(1));
    more(x, "w;", -1001);
    more(x, "w1;", -1002);
    more(x, "w001;", -1003);

    DOC.says("At least one STATEMENT");
    told("", -1000);
    told(";", -1000);
  }

  private static void faultsOfKindOne() {
    DOC.says("FAULT: kind 1 the place of the first letter with which no TOWN can go on");
    told("q", -1000);
    told("w01;q01;z", -1004);
    told("hh01x0x;", -1004);
    told("w01;w0:;", -1006);
    told("w01;w0/;", -1006);
    told("w01;\u00ff", -1004);
    told("w01;\u0000", -1004);
    told("w01; w01;", -1004);

    DOC.says("(the end, if something lacks)");
    told("h", -1001);
    told("hh", -1002);
    told("hh0", -1003);
    told("hh01", -1004);
    told("hh010", -1005);
    told("hh0100", -1006);
    told("w01;c12", -1007);
    told("w01;".repeat(23) + "hh01", -1096);

    DOC.says("-1000 less the place");
    told("w01;".repeat(23) + "q", -1092);
    told("w01;".repeat(23) + "w01q", -1095);
  }

  private static void faultsOfKindTwo() {
    DOC.says("else kind 2");
    told("w00;w", -1005);
    told("x0;q", -1003);
    told("x0;w01;", -2000);

    DOC.says("the place of the first letter of the first STATEMENT that");
    told("w01;c000;w00;w01;x0;", -2009);
    told("w01;x0;w00;", -2004);

    DOC.says("behind all ahead of it in the text, is not as it must be");
    told("hh0100;x0;", 2);
    told("x0;hh0100;", -2000);
    told("hh0100;x1;hh0100;", -2007);
    told("w60;".repeat(16) + "w39;w01;", -2068);
    told("w60;".repeat(16) + "w38;w01;", 18);

    DOC.says("(a number out of range");
    told("hh0000;", -2000);
    told("hh0131;", -2000);
    told("hh0199;", -2000);
    told("hh0100;p031;", -2007);
    told("hh0100;p099;", -2007);
    told("hh0100;d021;", -2007);
    told("hh0100;d099;", -2007);
    told("w00;", -2000);
    told("w61;", -2000);
    told("hh0130;p030;d020;w60;", 4);

    DOC.says("no such HOUSE so far");
    for (String rest : new String[] {"p000;", "d000;", "x0;", "i0;"}) {
      told(rest, -2000);
      told("hh0100;" + rest, 2);
      told("hh0100;" + rest.charAt(0) + "1" + rest.substring(2), -2007);
    }
    told(SIX + "x5;", 7);
    told(SIX + "x6;", -2042);
    told(SIX + "i9;", -2042);

    DOC.says("WEEK above 999");
    RoomToSpare x = inWeek(998);
    more(x, "w02;", -2000);
    more(x, "w01;w01;", -2004);
    more(x, "w01;", 1);
    DOC.is("count(1)", 999, x.count(1));
    more(x, "w01;", -2000);

    DOC.says("no room for more)");
    told(SIX, 6);
    told(SIX + "hh0100;", -2042);
    more(Due.townOf(SIX), "c001;hh0100;", -2005);

    DOC.says("-2000 less the place");
    told("w00;", -2000);
    told("w01;".repeat(23) + "w00;", -2092);
  }

  private static void allOrNothing() {
    DOC.says("Without FAULT all of it comes");
    RoomToSpare x = Due.townOf("hh0901;hc2103;p005;d006;x1;i1;c007;");
    int[] due = {2, 0, 1, 8, 7, 1};
    for (int what = 0; what < due.length; what++) {
      DOC.is("count(" + what + ")", due[what], x.count(what));
    }
    DOC.is("house(0, 4)", 6, x.house(0, 4));
    more(x, "w01;x0;", 2);
    DOC.is("count(1)", 1, x.count(1));
    DOC.is("count(2)", 0, x.count(2));

    DOC.says("with one nothing");
    more(x, "hh0101;p009;d009;x0;i0;c999;w09;x9;", -2032);
    more(x, "hh0101;p009;d009;x0;i0;c999;w09;x", -1033);
    int[] as = {2, 1, 0, 8, 6, 0};
    for (int what = 0; what < as.length; what++) {
      DOC.is("count(" + what + ")", as[what], x.count(what));
    }
    DOC.is("house(0, 3)", 5, x.house(0, 3));
    DOC.is("house(0, 4)", 7, x.house(0, 4));
  }
}
