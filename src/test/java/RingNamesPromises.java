/** Each promise of the document by itself: ordinary calls, the edges it names, wrong numbers. */
public final class RingNamesPromises {
  private static final int BAD = -1, STATE = -2, FULL = -3, NONE = -9, NO = -1000000;
  private static final int FAR = Integer.MAX_VALUE, LOW = Integer.MIN_VALUE;
  private static int wrong = 0;
  private static int promise = 0;

  private static void due(String what, long got, long want) {
    if (got != want) {
      wrong++;
      System.out.println("promise " + promise + ": " + what + " answered " + got + ", due is " + want);
    }
  }

  private static void say(RingNames x, String text) {
    for (int i = 0; i < text.length(); i++) x.type(text.charAt(i));
  }

  private static RingNames crewOf(String text) {
    RingNames x = new RingNames();
    say(x, text);
    if (x.crew() < 0) { wrong++; System.out.println("promise " + promise + ": no crew from " + text); }
    return x;
  }

  /** Hours go by until it is h. */
  private static void until(RingNames x, int h) {
    for (int i = 0; i < 100 && x.now(0) < h; i++) x.hour();
  }

  /** Signs in the earliest hour from now on in which he may. */
  private static int signSoon(RingNames x, int s, int k) {
    if (x.sailor(s, 5) == 0) x.hour();
    return x.signs(s, k);
  }

  private static int fault(String text) {
    RingNames x = new RingNames();
    say(x, text);
    return x.crew();
  }

  private static void newObject() {
    promise = 1;
    RingNames x = new RingNames();
    due("sailors", x.count(0), 0);
    due("dip", x.count(1), 3);
    due("seats", x.count(2), 8);
    due("letters", x.count(3), 0);
    for (int what = 0; what < 5; what++) due("now(" + what + ")", x.now(what), 0);
    for (int k = 0; k < 8; k++) {
      due("seat who", x.seat(k, 0), NONE);
      due("seat ink", x.seat(k, 1), 0);
    }
    due("a seat beyond", x.seat(8, 0), BAD);
    due("sailor 0", x.sailor(0, 0), BAD);
    due("signs", x.signs(0, 0), BAD);
    due("trace", x.trace(), 0);
    due("undo", x.undo(), STATE);
    due("back", x.back(0), STATE);
    due("back", x.back(1), STATE);
  }

  private static void typing() {
    promise = 2;
    RingNames x = new RingNames();
    due("0", x.type(0), 1);
    due("255", x.type(255), 2);
    due("256", x.type(256), BAD);
    due("-1", x.type(-1), BAD);
    due("far", x.type(FAR), BAD);
    due("low", x.type(LOW), BAD);
    for (int i = 3; i <= 200; i++) due("letter " + i, x.type(' '), i);
    due("one more", x.type(' '), FULL);
    due("BAD is told ahead of FULL", x.type(256), BAD);
    due("still as many", x.count(3), 200);
    due("clear", x.clear(), 200);
    due("again", x.type('d'), 1);
  }

  private static void clearing() {
    promise = 3;
    RingNames x = new RingNames();
    due("none", x.clear(), 0);
    say(x, "s0 0");
    due("four", x.clear(), 4);
    due("empty", x.count(3), 0);
    say(x, "d2;");
    due("only the new letters are read", x.crew(), 1);
    say(x, "n2;");
    x.clear();
    due("the crew stays", x.count(1), 2);
    due("what was cleared is not read", x.count(2), 8);
  }

  private static void telling() {
    promise = 4;
    due("no items", fault(""), 0);
    due("blanks alone", fault("    "), 0);
    due("close together", fault("s0 0 0;d4;n1;s2 7 127;"), 4);
    due("far apart", fault("  s 0  0   0 ;  d  4 ; n 8  ;  "), 3);
    due("seven", fault("s0 0 0;s0 0 0;s0 0 0;s0 0 0;s0 0 0;s0 0 0;s0 0 0;d1;n1;"), 9);
    RingNames x = crewOf("d4;s2 7 127;n1;s1 3 0;");
    due("sailors", x.count(0), 2);
    due("dip", x.count(1), 4);
    due("seats", x.count(2), 1);
    due("the text is empty then", x.count(3), 0);
    due("watch", x.sailor(0, 0), 2);
    due("courage", x.sailor(0, 1), 7);
    due("watch", x.sailor(1, 0), 1);
    due("courage", x.sailor(1, 1), 3);
    faults();
    nothingChangesByAFault();
    readAnew();
  }

  private static void faults() {
    due("a dip of 0", fault("d0;"), -11);
    due("a dip of 5", fault("d 5;"), -12);
    due("seats of 0", fault("n0;"), -11);
    due("seats of 9", fault("n9;"), -11);
    due("d again", fault("d1; d1;"), -14);
    due("n again", fault("n1;d2;n1;"), -16);
    due("an eighth s", fault("s0 0 0;s0 0 0;s0 0 0;s0 0 0;s0 0 0;s0 0 0;s0 0 0; s"), -60);
    due("watch 3", fault("s3 0 0;"), -11);
    due("courage 8", fault("s0 8 0;"), -13);
    due("trust 128", fault("s0 0 128;"), -15);
    due("a long number", fault("s0 0 99999999999999999999;"), -15);
    due("a number that wraps round", fault("s0 0 4294967297;"), -15);
    due("a 0 ahead", fault("d01;"), -11);
    due("two 0", fault("s00 0 0;"), -11);
    due("a 0 ahead where a number can't stand", fault(" 01"), -11);
    due("blanks needed", fault("s000;"), -11);
    due("two numbers in one", fault("s1 23;"), -13);
    due("too few numbers", fault("s0 0;"), -14);
    due("too many", fault("s0 0 0 0;"), -17);
    due("a lone ;", fault(";"), -10);
    due("; again", fault("d1;;"), -13);
    due("a lone number", fault("  7"), -12);
    due("another letter", fault("d1;x"), -13);
    due("a capital", fault("D1;"), -10);
    due("a letter that is no blank", fault("d1;\t"), -13);
    due("minus", fault("d-1;"), -11);
    due("ends too early", fault("s"), -11);
    due("ends too early", fault("s0 0 0"), -16);
    due("blanks behind", fault("d3  "), -14);
    due("dd", fault("dd"), -11);
    due("s in s", fault("s0 s"), -13);
    RingNames x = new RingNames();
    for (int i = 0; i < 199; i++) x.type(' ');
    x.type('d');
    due("ends at the last letter", x.crew(), -210);
    x.clear();
    for (int i = 0; i < 199; i++) x.type(' ');
    x.type(0);
    due("a fault in the last letter", x.crew(), -209);
    // another object: of one, nothing is promised behind its 512th call
    x = new RingNames();
    for (int i = 0; i < 197; i++) x.type(' ');
    say(x, "d1;");
    due("an item in the last letters", x.crew(), 1);
  }

  private static void nothingChangesByAFault() {
    RingNames x = crewOf("s0 0 0;s1 0 0;d2;n5;");
    x.hour();
    x.signs(0, 1);
    x.keep(0);
    say(x, "d4;n1;s2 2 2;x");
    due("a fault", x.crew(), -23);
    due("the text stays", x.count(3), 14);
    due("the same again", x.crew(), -23);
    due("sailors", x.count(0), 2);
    due("dip", x.count(1), 2);
    due("seats", x.count(2), 5);
    due("watch", x.sailor(0, 0), 0);
    due("hour", x.now(0), 2);
    due("signed", x.now(1), 1);
    due("seat", x.seat(1, 0), 0);
    due("undo", x.undo(), 1);
    due("image", x.back(0), 2);
  }

  private static void readAnew() {
    RingNames x = crewOf("s0 0 0;s1 0 0;d2;n5;");
    x.hour();
    x.signs(0, 1);
    x.keep(0);
    x.keep(1);
    x.rate(0, 0);
    say(x, "s1 0 0;");
    due("anew", x.crew(), 1);
    due("sailors", x.count(0), 1);
    due("dip as at first", x.count(1), 3);
    due("seats as at first", x.count(2), 8);
    due("hour", x.now(0), 0);
    due("nobody signed", x.now(1), 0);
    due("nobody is there", x.now(2), 0);
    due("seat", x.seat(1, 0), NONE);
    due("ink", x.seat(1, 1), 0);
    due("nothing to undo", x.now(4), 0);
    due("undo", x.undo(), STATE);
    due("images", x.back(0), STATE);
    due("images", x.back(1), STATE);
    due("the trace goes on", x.trace(), 1);
    RingNames none = crewOf("s0 0 0;d1;n1;");
    none.hour();
    due("no items", none.crew(), 0);
    due("no sailors then", none.count(0), 0);
    due("dip as at first", none.count(1), 3);
    due("seats as at first", none.count(2), 8);
    due("hour", none.now(0), 0);
    due("nothing to undo", none.undo(), STATE);
  }

  private static void sailors() {
    promise = 5;
    RingNames x = crewOf("s0 0 127;s1 0 0;s2 2 97;");
    due("watch", x.sailor(2, 0), 2);
    due("courage", x.sailor(2, 1), 2);
    due("trusts of those there are, not himself", x.sailor(0, 2), 6);
    due("trusts", x.sailor(2, 2), 1);
    due("trusts none", x.sailor(1, 2), 0);
    due("did not sign", x.sailor(1, 3), 0);
    due("no seat", x.sailor(1, 4), NONE);
    due("on deck", x.sailor(0, 5), 0);
    due("would", x.sailor(1, 5), 1);
    due("too few signed", x.sailor(2, 5), 0);
    x.signs(1, 7);
    due("signed", x.sailor(1, 3), 1);
    due("seat", x.sailor(1, 4), 7);
    due("he did", x.sailor(1, 5), 0);
    due("would in the next hour", x.sailor(0, 5), 1);
    until(x, 3);
    x.hour();
    x.signs(0, 0);
    due("on deck, though brave", x.sailor(2, 5), 0);
    due("seat 0", x.sailor(0, 4), 0);
    x.hour();
    due("brave", x.sailor(2, 5), 1);
    x.scrape(0);
    due("scraped ones, too", x.sailor(2, 5), 1);
    due("signed for good", x.sailor(0, 3), 1);
    due("seat gone", x.sailor(0, 4), NONE);
    due("below", x.sailor(-1, 0), BAD);
    due("beyond", x.sailor(3, 0), BAD);
    due("what", x.sailor(0, 6), BAD);
    due("what", x.sailor(0, -1), BAD);
    due("far", x.sailor(FAR, FAR), BAD);
    due("low", x.sailor(LOW, LOW), BAD);
    RingNames y = crewOf("s0 0 0;s1 0 0;s1 1 6;s1 1 4;");
    y.signs(1, 0);
    y.hour();
    due("trusts one who signed", y.sailor(2, 5), 1);
    due("trusts himself alone", y.sailor(3, 5), 0);
  }

  private static void seats() {
    promise = 6;
    RingNames x = crewOf("s1 0 0;s1 0 0;n2;");
    due("free", x.seat(1, 0), NONE);
    due("no ink", x.seat(1, 1), 0);
    x.signs(1, 1);
    due("who", x.seat(1, 0), 1);
    due("ink", x.seat(1, 1), 3);
    x.scrape(1);
    due("free again", x.seat(1, 0), NONE);
    due("ink gone", x.seat(1, 1), 0);
    due("beyond", x.seat(2, 0), BAD);
    due("below", x.seat(-1, 0), BAD);
    due("what", x.seat(0, 2), BAD);
    due("what", x.seat(0, -1), BAD);
    due("far", x.seat(FAR, 0), BAD);
    due("low", x.seat(LOW, 0), BAD);
    due("the eighth", new RingNames().seat(7, 0), NONE);
  }

  private static void nowOf() {
    promise = 7;
    RingNames x = crewOf("s0 0 0;s1 0 0;s2 0 0;s2 1 2;");
    due("would in hour 0", x.now(3), 6);
    x.signs(1, 0);
    due("would in hour 1", x.now(3), 13);
    x.signs(0, 1);
    due("would in hour 2", x.now(3), 0);
    x.hour();
    due("hour", x.now(0), 3);
    due("signed", x.now(1), 3);
    due("there", x.now(2), 3);
    due("would in hour 3", x.now(3), 12);
    due("may be undone", x.now(4), 3);
    x.scrape(0);
    due("signed for good", x.now(1), 3);
    due("there no more", x.now(2), 1 << 0);
    due("hour goes by with no scraping", x.now(0), 3);
    due("may be undone", x.now(4), 4);
    due("what", x.now(5), BAD);
    due("what", x.now(-1), BAD);
    due("what", x.now(FAR), BAD);
    RingNames y = crewOf("s1 0 0;s1 0 0;n1;");
    y.signs(0, 0);
    y.hour();
    due("would, with no free seat, too", y.now(3), 2);
  }

  private static void signing() {
    promise = 8;
    RingNames x = crewOf("s0 0 0;s0 0 0;s0 0 0;s0 0 0;s1 0 0;s1 2 32;n6;");
    due("on deck", x.signs(0, 0), STATE);
    due("the darkest", x.signs(4, 0), 3);
    due("the next hour", x.now(0), 1);
    due("he did", x.signs(4, 1), STATE);
    due("seat not free", x.signs(0, 0), STATE);
    due("lighter", x.signs(0, 1), 2);
    due("lighter", x.signs(1, 2), 1);
    due("on deck", x.signs(2, 3), STATE);
    x.hour();
    due("the darkest again", x.signs(2, 3), 3);
    x.scrape(3);
    due("the seat is free again, he is counted", x.signs(3, 3), 2);
    due("nobody whom he trusts", x.signs(5, 4), STATE);
    due("no such sailor", x.signs(6, 5), BAD);
    due("no such sailor", x.signs(-1, 5), BAD);
    due("no such seat", x.signs(0, 6), BAD);
    due("no such seat", x.signs(0, -1), BAD);
    due("far", x.signs(FAR, FAR), BAD);
    due("low", x.signs(LOW, LOW), BAD);
    RingNames y = crewOf("s0 0 0;s1 1 2;s1 1 1;s2 2 1;d1;");
    y.hour();
    due("dip of 1", y.signs(0, 0), 1);
    due("trusts himself alone", y.signs(1, 1), STATE);
    due("brave enough", y.signs(2, 1), 1);
    y.hour();
    due("brave enough", y.signs(3, 2), 1);
    RingNames z = crewOf("s1 0 0;s2 0 0;");
    until(z, 98);
    due("hour 98, on deck", z.signs(1, 0), STATE);
    due("hour 98", z.signs(0, 0), 3);
    due("would in hour 99", z.sailor(1, 5), 1);
    due("hour 99", z.signs(1, 1), STATE);
    due("hour 99, BAD first", z.signs(2, 1), BAD);
    RingNames four = crewOf("s0 0 0;s0 0 0;d4;");
    four.hour();
    due("dip of 4", four.signs(0, 0), 4);
    due("dip of 4", four.signs(1, 1), 3);
  }

  private static void hours() {
    promise = 9;
    RingNames x = new RingNames();
    for (int h = 1; h <= 99; h++) due("hour", x.hour(), h);
    due("it is 99", x.hour(), STATE);
    due("stays", x.now(0), 99);
    due("a refused one is not undone", x.undo(), 9);
    due("98", x.now(0), 98);
    due("99 again", x.hour(), 99);
  }

  private static void scraping() {
    promise = 10;
    RingNames x = crewOf("s1 0 0;s2 0 0;s1 0 0;n3;");
    x.signs(2, 1);
    due("nobody there", x.scrape(0), STATE);
    due("who", x.scrape(1), 2);
    due("nobody there any more", x.scrape(1), STATE);
    due("signed for good", x.signs(2, 1), STATE);
    due("the hour stays", x.now(0), 1);
    due("counted for the ink", x.signs(1, 1), 2);
    due("beyond", x.scrape(3), BAD);
    due("below", x.scrape(-1), BAD);
    due("far", x.scrape(FAR), BAD);
    due("low", x.scrape(LOW), BAD);
    until(x, 99);
    due("in hour 99, too", x.scrape(1), 1);
  }

  private static void undoing() {
    promise = 11;
    RingNames x = crewOf("s1 0 0;s2 0 0;s2 1 2;");
    due("nothing", x.undo(), STATE);
    x.signs(1, 5);
    x.hour();
    x.scrape(5);
    x.signs(1, 5);
    x.scrape(4);
    x.signs(9, 9);
    due("refused ones don't count", x.now(4), 3);
    due("the scraping", x.undo(), 2);
    due("the seat", x.seat(5, 0), 1);
    due("the ink", x.seat(5, 1), 3);
    due("the hour", x.undo(), 1);
    due("the hour", x.now(0), 1);
    due("the signing", x.undo(), 0);
    due("the seat", x.seat(5, 0), NONE);
    due("signed", x.now(1), 0);
    due("the hour", x.now(0), 0);
    due("nothing any more", x.undo(), STATE);
    for (int i = 0; i < 25; i++) x.hour();
    due("ten are known", x.now(4), 10);
    for (int left = 9; left >= 0; left--) {
      due("ten are known", x.undo(), left);
      due("an hour back", x.now(0), 15 + left);
    }
    due("older ones are lost", x.undo(), STATE);
    due("older ones are lost", x.now(0), 15);
    x.hour();
    x.hour();
    due("on from there", x.undo(), 1);
    x.hour();
    due("on from there", x.undo(), 1);
    due("on from there", x.undo(), 0);
    due("on from there", x.now(0), 15);
    RingNames y = crewOf("s1 0 0;s1 0 0;d2;");
    y.signs(1, 0);
    y.scrape(0);
    due("seat 0", y.undo(), 1);
    due("seat 0", y.seat(0, 0), 1);
    due("seat 0", y.seat(0, 1), 2);
    y.keep(0);
    y.scrape(0);
    y.back(0);
    due("seat 0, kept", y.seat(0, 0), 1);
    y.scrape(0);
    y.undo();
    due("the image is not undone", y.back(0), 1);
  }

  private static void willSign() {
    promise = 12;
    due("no sailors", new RingNames().will(), 0);
    RingNames x = crewOf("s0 0 0;s0 1 1;s0 2 6;s0 4 7;s0 1 16;s0 3 32;s0 3 2;");
    due("one by the other, on deck or not", x.will(), 1 | 2 | 4 | 64 | 8);
    due("nothing is changed", x.now(1), 0);
    RingNames y = crewOf("s0 1 2;s1 1 4;s2 0 0;");
    due("from the last to the first", y.will(), 7);
    RingNames long7 = crewOf("s0 1 2;s0 1 4;s0 1 8;s0 1 16;s0 1 32;s0 1 64;s0 0 0;");
    due("from the last of seven to the first", long7.will(), 127);
    RingNames none = crewOf("s0 1 2;s1 1 1;s2 1 127;");
    due("nobody begins", none.will(), 0);
    RingNames z = crewOf("s1 0 0;s2 1 1;s2 2 1;");
    z.signs(0, 0);
    z.scrape(0);
    due("those who signed, scraped ones too", z.will(), 7);
    until(z, 99);
    due("in hour 99, too", z.will(), 7);
    RingNames one = crewOf("s1 0 0;s2 0 0;n1;");
    due("seats or not", one.will(), 3);
    due("trusts such as there are not", crewOf("s0 0 0;s0 1 124;").will(), 1);
  }

  private static void beginning() {
    promise = 13;
    due("no sailors", new RingNames().begin(), 0);
    due("all will anyhow", crewOf("s0 0 0;s0 1 1;").begin(), 0);
    due("the least of two", crewOf("s0 1 2;s1 1 1;").begin(), 1);
    due("one moves all", crewOf("s0 7 127;s0 1 1;s0 2 1;s0 3 1;s0 4 1;").begin(), 1);
    due("the second moves all", crewOf("s0 2 2;s0 7 127;s0 1 2;").begin(), 2);
    due("the least bits", crewOf("s0 2 2;s0 2 1;s0 2 1;").begin(), 3);
    due("one short of the third's courage: all", crewOf("s0 3 2;s0 3 1;s0 3 1;").begin(), 7);
    due("two of two rings", crewOf("s0 1 2;s0 1 1;s0 1 8;s0 1 4;").begin(), 1 | 4);
    due("nobody of seven trusts: all", crewOf("s0 1 0;s0 1 0;s0 1 0;s0 1 0;s0 1 0;s0 1 0;s0 1 0;").begin(), 127);
    due("nobody trusts: all", crewOf("s0 1 0;s1 1 0;s2 1 0;").begin(), 7);
    due("one too brave for all", crewOf("s0 7 127;s1 0 0;s2 0 0;").begin(), 1);
    RingNames x = crewOf("s1 0 0;s1 2 0;s1 7 127;s1 2 4;");
    due("ahead", x.begin(), 2 | 4);
    x.signs(0, 0);
    due("of those who did not sign", x.begin(), 2 | 4);
    due("nothing is changed", x.now(1), 1);
    RingNames y = crewOf("s1 0 0;s1 7 0;s1 2 2;");
    y.signs(0, 0);
    due("the fewest, courage or not", y.begin(), 2);
  }

  private static void counted() {
    promise = 14;
    due("nobody is there", new RingNames().orders(), 1);
    RingNames x = crewOf("s0 0 0;s0 0 0;s0 0 0;s0 0 0;s0 0 0;s0 0 0;s0 0 0;d1;");
    for (int s = 0; s < 7; s++) signSoon(x, s, 7 - s);
    due("seven", x.orders(), 5040);
    RingNames y = crewOf("s0 0 0;s0 0 0;s0 0 0;s0 0 0;s0 0 0;s0 0 0;s0 0 0;d3;");
    for (int s = 0; s < 7; s++) signSoon(y, s, s);
    due("by ink: 3! 2! 2!", y.orders(), 24);
    y.scrape(6);
    due("by ink: 2! 2! 2!", y.orders(), 8);
    y.scrape(0);
    due("3, 2, 1, 3, 2 are due, and one 3 is there", y.orders(), 0);
    y.scrape(4);
    y.scrape(5);
    due("3, 2, 1", y.orders(), 1);
    y.scrape(3);
    due("no darkest one is there", y.orders(), 0);
    RingNames brave = crewOf("s1 0 0;s1 1 1;s1 2 3;s1 1 2;d1;");
    brave.signs(0, 0);
    brave.hour();
    brave.signs(1, 1);
    brave.signs(3, 3);
    brave.hour();
    brave.signs(2, 2);
    due("by courage and trust: 0 1, then 2 and 3", brave.orders(), 2);
    brave.scrape(1);
    due("nobody else having signed", brave.orders(), 0);
    hoursOfOrders();
  }

  private static void hoursOfOrders() {
    RingNames x = crewOf("s1 0 0;s0 0 0;d1;");
    x.signs(0, 0);
    x.hour();
    due("hour 2, one there", x.orders(), 1);
    x.undo();
    x.signs(1, 1);
    due("hour 2: 0 in 0, 1 in 1 alone", x.orders(), 1);
    x.hour();
    due("hour 3: 1 in 1, 0 in 2", x.orders(), 2);
    x.undo();
    due("only hours ahead of now", x.first(), 1);
    RingNames y = crewOf("s0 0 0;s0 0 0;s1 0 0;d1;");
    y.signs(2, 0);
    y.signs(0, 1);
    y.signs(1, 2);
    due("hour 3: 2 in 0, the others in 1, 2", y.orders(), 2);
    y.hour();
    due("hour 4: or 2 in 3, the others in 1, 2", y.orders(), 4);
    y.hour();
    due("hour 5: or one in 1, 2 in 2, the other in 4", y.orders(), 6);
  }

  private static void firstOnes() {
    promise = 15;
    due("nobody is there", new RingNames().first(), 0);
    RingNames x = crewOf("s0 0 0;s0 0 0;s1 0 0;s2 0 0;s1 1 15;d2;");
    x.signs(2, 0);
    x.signs(0, 1);
    x.signs(1, 2);
    x.hour();
    x.signs(3, 3);
    due("the dark ones: 2 and 1", x.first(), 4 | 2);
    until(x, 6);
    x.signs(4, 4);
    due("three dark ones, one of them never first", x.first(), 4 | 2);
    x.scrape(4);
    due("as before", x.first(), 4 | 2);
    x.scrape(0);
    due("the ink does not fit", x.first(), 0);
    due("no orders", x.orders(), 0);
  }

  private static void sureOnes() {
    promise = 16;
    RingNames x = crewOf("s1 0 0;s1 1 1;s1 2 3;s1 1 2;d1;");
    x.signs(0, 0);
    x.hour();
    x.signs(1, 1);
    x.signs(3, 3);
    x.hour();
    x.signs(2, 2);
    due("of the first", x.sure(0), 0);
    due("of the second", x.sure(1), 1);
    due("of the third or fourth", x.sure(2), 3);
    due("of the third or fourth", x.sure(3), 3);
    due("no such", x.sure(4), BAD);
    due("below", x.sure(-1), BAD);
    due("far", x.sure(FAR), BAD);
    due("low", x.sure(LOW), BAD);
    x.scrape(1);
    due("not there", x.sure(1), BAD);
    due("no orders", x.orders(), 0);
    due("none without orders", x.sure(3), 0);
    due("nobody", new RingNames().sure(0), BAD);
    RingNames y = crewOf("s1 0 0;s0 0 0;s2 1 6;s1 1 4;d1;");
    y.hour();
    y.signs(1, 3);
    y.hour();
    y.signs(2, 4);
    y.hour();
    y.signs(3, 5);
    until(y, 6);
    y.signs(0, 6);
    due("0 can have come anywhere", y.sure(3), 2 | 4);
    due("0 can have come anywhere", y.sure(0), 0);
    due("0 can have come anywhere", y.sure(2), 2);
  }

  private static void chances() {
    promise = 17;
    RingNames x = crewOf("s0 0 0;s0 0 0;s1 0 0;s2 1 7;d1;");
    x.signs(2, 0);
    x.signs(0, 1);
    x.signs(1, 2);
    x.hour();
    due("hour 4: 012 102 201 210: first 0, upper", x.chance(0, 0), 1);
    due("lower", x.chance(0, 1), 4);
    due("upper of 2", x.chance(2, 0), 1);
    due("lower of 2", x.chance(2, 1), 2);
    x.signs(3, 3);
    due("never the first", x.chance(3, 0), 0);
    due("0 by 1", x.chance(3, 1), 1);
    due("what", x.chance(0, 2), BAD);
    due("what", x.chance(0, -1), BAD);
    due("no such", x.chance(4, 0), BAD);
    due("below", x.chance(-1, 0), BAD);
    due("far", x.chance(FAR, 1), BAD);
    due("low", x.chance(LOW, 1), BAD);
    x.scrape(0);
    due("not there", x.chance(2, 0), BAD);
    x.scrape(1);
    x.scrape(2);
    due("no orders", x.orders(), 0);
    due("0 by 1 without", x.chance(3, 0), 0);
    due("0 by 1 without", x.chance(3, 1), 1);
  }

  private static void asking() {
    promise = 18;
    due("nobody is there", new RingNames().ask(), 0);
    RingNames x = crewOf("s0 0 0;s0 0 0;s0 0 0;s0 0 0;d1;");
    x.hour();
    x.signs(3, 0);
    due("one: none need be asked", x.ask(), 0);
    x.signs(1, 1);
    x.hour();
    due("of two the lower", x.ask(), 2);
    x.signs(2, 2);
    due("of three two", x.ask(), 2 | 4);
    x.signs(0, 3);
    x.hour();
    due("of four three", x.ask(), 7);
    RingNames y = crewOf("s0 0 0;s0 0 0;s0 0 0;d2;");
    y.hour();
    y.signs(1, 0);
    y.signs(2, 1);
    y.hour();
    due("by ink it is known", y.ask(), 0);
    y.signs(0, 2);
    due("one of the two dark ones", y.ask(), 1);
    y.scrape(0);
    y.scrape(2);
    due("no orders", y.ask(), NONE);
    RingNames sure = crewOf("s0 0 0;s0 1 1;d1;");
    sure.hour();
    sure.signs(0, 0);
    sure.signs(1, 1);
    due("by courage it is known", sure.ask(), 0);
    // ahead of hour 4: 0 1 2, 1 0 2, 1 2 0, 2 0 1
    RingNames few = crewOf("s0 0 0;s1 0 0;s2 0 0;d1;");
    few.signs(1, 0);
    few.signs(0, 1);
    few.hour();
    few.signs(2, 2);
    due("each can have been first", few.first(), 7);
    due("in four orders", few.orders(), 4);
    due("one tells of three", few.ask(), 2);
    // 1 0 3 2 or 3 2 1 0
    RingNames other = crewOf("s0 1 6;s1 0 0;s1 1 8;s0 0 0;d2;");
    other.signs(1, 0);
    other.hour();
    other.signs(0, 1);
    other.hour();
    other.signs(3, 2);
    other.signs(2, 3);
    other.hour();
    due("1 or 3", other.first(), 10);
    due("one who can't have been first tells", other.ask(), 1);
  }

  private static void hanging() {
    promise = 19;
    due("nobody is there", new RingNames().hang(), NONE);
    RingNames x = crewOf("s0 0 0;s0 0 0;s1 0 0;d1;");
    x.signs(2, 0);
    due("one", x.hang(), 2);
    x.signs(0, 1);
    x.signs(1, 2);
    x.hour();
    due("most likely: 2 of 4", x.hang(), 2);
    x.hour();
    x.hour();
    due("all alike: the lowest", x.hang(), 0);
    x.scrape(1);
    due("the lowest who is there", x.hang(), 1);
    RingNames y = crewOf("s1 0 0;s1 0 0;");
    y.signs(0, 0);
    y.hour();
    y.signs(1, 1);
    y.scrape(0);
    due("no orders", y.hang(), NONE);
  }

  private static void shifting() {
    promise = 20;
    due("nobody is there", new RingNames().shift(0), NONE);
    due("nobody is there", new RingNames().shift(1), NONE);
    RingNames x = crewOf("s0 0 0;s0 0 0;s0 0 0;s0 0 0;d3;");
    x.hour();
    x.signs(2, 6);
    due("the only one: his seat", x.shift(0), 6);
    due("nobody can be first then", x.shift(1), 0);
    x.signs(1, 4);
    x.hour();
    due("the light one must go", x.shift(0), 4);
    due("one first", x.shift(1), 1);
    x.signs(0, 2);
    x.signs(3, 1);
    due("two dark ones, the second light one must stay, the third may go", x.shift(0), 1);
    due("one first", x.shift(1), 1);
    RingNames y = crewOf("s0 0 0;s0 0 0;s0 0 0;d1;");
    y.hour();
    y.signs(2, 3);
    y.signs(1, 5);
    y.hour();
    y.signs(0, 7);
    due("alike: the lowest seat", y.shift(0), 3);
    due("two", y.shift(1), 2);
    due("nothing is changed", y.now(2), 7);
    due("what", y.shift(2), BAD);
    due("what", y.shift(-1), BAD);
    due("what", y.shift(FAR), BAD);
    due("BAD ahead of NONE", new RingNames().shift(2), BAD);
    RingNames z = crewOf("s0 0 0;s0 1 1;s0 1 2;s0 0 0;d1;");
    z.hour();
    z.signs(0, 0);
    z.signs(1, 1);
    z.hour();
    z.signs(2, 2);
    due("behind 0 alone all is sure: 2 may go", z.shift(0), 2);
    due("one", z.shift(1), 1);
    RingNames late = crewOf("s1 0 0;s1 0 0;s1 0 0;d2;");
    late.signs(0, 2);
    late.hour();
    late.signs(1, 1);
    late.signs(2, 0);
    due("dark 0 and 2, light 1: one of the dark ones may go", late.shift(0), 0);
    due("one", late.shift(1), 1);
  }

  private static void oddsOf() {
    promise = 21;
    RingNames none = new RingNames();
    due("nobody", none.odds(5, 0, 0), 1);
    due("nobody", none.odds(5, 0, 1), 1);
    RingNames x = crewOf("s1 0 0;s1 0 0;s1 0 0;");
    due("5 of 10, none of three", x.odds(5, 0, 0), 1);
    due("lower", x.odds(5, 0, 1), 8);
    due("one at most", x.odds(5, 1, 0), 1);
    due("lower", x.odds(5, 1, 1), 2);
    due("1 of 10, none", x.odds(1, 0, 0), 729);
    due("lower", x.odds(1, 0, 1), 1000);
    due("1 of 10, one at most: 729 + 243", x.odds(1, 1, 0), 243);
    due("lower", x.odds(1, 1, 1), 250);
    due("7 of 10, two at most: 1 - 343/1000", x.odds(7, 2, 0), 657);
    due("lower", x.odds(7, 2, 1), 1000);
    due("all", x.odds(7, 3, 0), 1);
    due("all", x.odds(7, 3, 1), 1);
    due("more than all", x.odds(10, 7, 0), 1);
    due("never", x.odds(10, 2, 0), 0);
    due("0 by 1", x.odds(10, 2, 1), 1);
    due("nobody ever tells", x.odds(0, 0, 0), 1);
    due("nobody ever tells", x.odds(0, 0, 1), 1);
    x.signs(0, 0);
    due("who signed does not tell", x.odds(1, 0, 0), 81);
    x.scrape(0);
    due("scraped, too", x.odds(1, 0, 1), 100);
    RingNames seven = crewOf("s0 0 0;s0 0 0;s0 0 0;s0 0 0;s0 0 0;s0 0 0;s0 0 0;");
    due("seven", seven.odds(1, 0, 0), 4782969);
    due("seven", seven.odds(1, 0, 1), 10000000);
    due("p", x.odds(11, 0, 0), BAD);
    due("p", x.odds(-1, 0, 0), BAD);
    due("k", x.odds(0, 8, 0), BAD);
    due("k", x.odds(0, -1, 0), BAD);
    due("what", x.odds(0, 0, 2), BAD);
    due("what", x.odds(0, 0, -1), BAD);
    due("far", x.odds(FAR, FAR, FAR), BAD);
    due("low", x.odds(LOW, LOW, LOW), BAD);
  }

  private static void boldOnes() {
    promise = 22;
    due("nobody", new RingNames().bold(7), 0);
    RingNames x = crewOf("s0 0 0;s0 3 0;s0 3 0;s0 7 0;s1 0 0;");
    due("0", x.bold(0), 2);
    due("2", x.bold(2), 2);
    due("3", x.bold(3), 4);
    due("6", x.bold(6), 4);
    due("7", x.bold(7), 5);
    x.signs(4, 0);
    due("those who signed, too", x.bold(0), 2);
    due("8", x.bold(8), BAD);
    due("-1", x.bold(-1), BAD);
    due("far", x.bold(FAR), BAD);
    due("low", x.bold(LOW), BAD);
  }

  private static void cliques() {
    promise = 23;
    due("nobody", new RingNames().clique(0), 0);
    due("nobody", new RingNames().clique(1), 0);
    RingNames x = crewOf("s0 0 0;s0 0 124;s0 0 2;s0 0 26;s0 0 10;");
    due("1, 3, 4", x.clique(0), 3);
    due("1, 3, 4", x.clique(1), 2 | 8 | 16);
    RingNames y = crewOf("s0 0 2;s0 0 0;s0 0 8;s0 0 4;");
    due("one way is none", y.clique(0), 2);
    due("2, 3", y.clique(1), 4 | 8);
    RingNames z = crewOf("s0 0 8;s0 0 4;s0 0 2;s0 0 1;");
    due("of two the least", z.clique(1), 2 | 4);
    RingNames alone = crewOf("s0 0 126;s0 0 1;s0 0 0;");
    due("pair", alone.clique(1), 3);
    due("all", crewOf("s0 0 6;s0 0 5;s0 0 3;").clique(1), 7);
    due("all", crewOf("s0 0 6;s0 0 5;s0 0 3;").clique(0), 3);
    due("alone", crewOf("s0 0 0;s0 0 1;").clique(0), 1);
    due("alone", crewOf("s0 0 0;s0 0 1;").clique(1), 1);
    due("what", x.clique(2), BAD);
    due("what", x.clique(-1), BAD);
    due("what", x.clique(FAR), BAD);
  }

  private static void rates() {
    promise = 24;
    RingNames x = crewOf("s0 0 0;s1 1 127;s1 0 6;");
    due("sailor", x.rate(0, 1), 1);
    due("cook, not there", x.rate(1, 1), 1);
    due("mate: 1 - 2", x.rate(2, 1), -1);
    due("bosun", x.rate(3, 1), 2);
    due("gunner: -1 + 1", x.rate(4, 1), 0);
    due("boy, hour 0", x.rate(5, 1), 1);
    x.signs(2, 3);
    x.hour();
    due("cook: 0 + 3", x.rate(1, 2), 3);
    due("bosun: twice that", x.rate(3, 2), 6);
    due("boy: 0 + 2", x.rate(5, 2), 2);
    due("mate: he trusts one but himself", x.rate(2, 2), -1);
    due("gunner", x.rate(4, 2), 1);
    x.scrape(3);
    due("cook, scraped", x.rate(1, 2), 0);
    due("kind", x.rate(6, 0), NO);
    due("kind", x.rate(-1, 0), NO);
    due("no such", x.rate(0, 3), NO);
    due("no such", x.rate(0, -1), NO);
    due("far", x.rate(FAR, FAR), NO);
    due("low", x.rate(LOW, LOW), NO);
  }

  private static void keeping() {
    promise = 25;
    RingNames x = crewOf("s1 0 0;s1 0 0;");
    due("hour 0", x.keep(0), 0);
    x.signs(1, 4);
    due("hour 1", x.keep(1), 1);
    due("undoing stays", x.now(4), 1);
    x.hour();
    due("kept over", x.keep(0), 2);
    due("it is the newer", x.back(0), 2);
    due("image", x.keep(2), BAD);
    due("image", x.keep(-1), BAD);
    due("far", x.keep(FAR), BAD);
    due("low", x.keep(LOW), BAD);
  }

  private static void goingBack() {
    promise = 26;
    RingNames x = crewOf("s1 0 0;s2 0 0;");
    x.signs(0, 4);
    x.keep(1);
    x.signs(1, 2);
    x.scrape(4);
    x.rate(0, 0);
    due("none was kept", x.back(0), STATE);
    due("may still be undone", x.now(4), 3);
    due("the hour", x.back(1), 1);
    due("hour", x.now(0), 1);
    due("signed", x.now(1), 1);
    due("there", x.now(2), 1);
    due("seat", x.seat(4, 0), 0);
    due("ink", x.seat(4, 1), 3);
    due("seat", x.seat(2, 0), NONE);
    due("nothing can be undone", x.now(4), 0);
    due("nothing can be undone", x.undo(), STATE);
    due("the trace goes on", x.trace(), 1);
    x.hour();
    due("again", x.back(1), 1);
    x.hour();
    x.keep(0);
    due("each by itself", x.back(1), 1);
    due("each by itself", x.back(0), 2);
    due("image", x.back(2), BAD);
    due("image", x.back(-1), BAD);
    due("far", x.back(FAR), BAD);
    due("low", x.back(LOW), BAD);
  }

  private static void counts() {
    promise = 27;
    RingNames x = crewOf("s1 0 0;s2 0 0;d1;n4;");
    due("sailors", x.count(0), 2);
    due("dip", x.count(1), 1);
    due("seats", x.count(2), 4);
    due("letters", x.count(3), 0);
    say(x, "s0");
    due("letters", x.count(3), 2);
    due("what", x.count(4), BAD);
    due("what", x.count(-1), BAD);
    due("far", x.count(FAR), BAD);
    due("low", x.count(LOW), BAD);
  }

  private static void traces() {
    promise = 28;
    RingNames x = crewOf("s1 2 0;");
    long sum = 0;
    long[] added = {1, 11, 101, 1011, 10101, 100001};
    for (int kind = 0; kind < 6; kind++) {
      x.rate(kind, 0);
      sum += added[kind];
      due("kind " + kind, x.trace(), sum);
    }
    x.rate(6, 0);
    x.rate(-1, 0);
    x.rate(3, 1);
    due("not by what is refused", x.trace(), sum);
    x.keep(0);
    x.hour();
    x.rate(5, 0);
    sum += 100001;
    x.undo();
    due("undo", x.trace(), sum);
    x.back(0);
    due("back", x.trace(), sum);
    x.crew();
    due("crew", x.trace(), sum);
    x.trace();
    due("looking adds nothing", x.trace(), sum);
  }

  public static void main(String[] args) {
    newObject();
    typing();
    clearing();
    telling();
    sailors();
    seats();
    nowOf();
    signing();
    hours();
    scraping();
    undoing();
    willSign();
    beginning();
    counted();
    firstOnes();
    sureOnes();
    chances();
    asking();
    hanging();
    shifting();
    oddsOf();
    boldOnes();
    cliques();
    rates();
    keeping();
    goingBack();
    counts();
    traces();
    System.out.println(wrong == 0 ? "every promise holds" : wrong + " answers are not as due");
    if (wrong != 0) System.exit(1);
  }
}
