/** Compares answers with those that are due and tells the wrong ones. */
final class Due {
  private int looked = 0;
  private int wrong = 0;

  void is(String call, long due, long got) {
    looked++;
    if (got != due) {
      wrong++;
      System.out.println(call + " answered " + got + ", due is " + due);
    }
  }

  /** Tells what came of it and ends the program, with 1 if an answer was wrong. */
  void end() {
    System.out.println(looked + " answers, " + wrong + " not as due");
    if (looked == 0 || wrong != 0) {
      System.exit(1);
    }
  }

  static int tell(RoomToSpare x, String text) {
    for (int i = 0; i < text.length(); i++) {
      x.letter(text.charAt(i));
    }
    return x.town();
  }

  /** A new object with a town told in letters. */
  static RoomToSpare townOf(String text) {
    RoomToSpare x = new RoomToSpare();
    int answer = tell(x, text);
    if (answer < 0) {
      System.out.println("the test's own town has a fault: " + text + ": " + answer);
      System.exit(1);
    }
    return x;
  }
}
