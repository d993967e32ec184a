import java.util.ArrayList;
import java.util.List;
import java.util.function.Function;

/**
 * Each sentence of the document that names a boundary, by itself: the last that is still allowed and the first that is
 * not, on both sides. The words of the sentence stand ahead of its test. A refused call is made on one of two objects
 * with the same past: whatever can be asked of them afterwards, they must answer alike.
 */
public final class RingNamesEdges {
  private static final int BAD = -1, STATE = -2, FULL = -3, NONE = -9, NO = -1000000;
  private static final int FAR = Integer.MAX_VALUE, LOW = Integer.MIN_VALUE;
  private static final String SEVEN = "s0 0 0;s0 0 0;s0 0 0;s0 0 0;s0 0 0;s0 0 0;s0 0 0;";

  private static int wrong = 0;
  private static int sentences = 0;
  private static int checks = 0;
  private static String sentence = "";

  // ---- what a test is made of

  private static void on(String words) {
    if (sentences > 0 && checks == 0) miss("no check at all");
    sentences++;
    checks = 0;
    sentence = words;
  }

  private static void miss(String what) {
    wrong++;
    if (wrong <= 60) System.out.println("\"" + sentence + "\": " + what);
  }

  private static void due(String what, long got, long want) {
    checks++;
    if (got != want) miss(what + " answered " + got + ", due is " + want);
  }

  private static void say(RingNames x, String text) {
    for (int i = 0; i < text.length(); i++) x.type(text.charAt(i));
  }

  private static String blanks(int n) { return " ".repeat(n); }

  private static RingNames told(String text) {
    RingNames x = new RingNames();
    say(x, text);
    if (x.crew() < 0) miss("no crew from " + text);
    return x;
  }

  /** What crew() answers to a text on a new object. */
  private static int read(String text) {
    RingNames x = new RingNames();
    say(x, text);
    return x.crew();
  }

  private static void until(RingNames x, int h) {
    for (int i = 0; i < 99 && x.now(0) < h; i++) x.hour();
  }

  /** Signs in the earliest hour from now on in which he is not on deck. */
  private static int sign(RingNames x, int s, int k) {
    if (x.now(0) % 3 == x.sailor(s, 0)) x.hour();
    return x.signs(s, k);
  }

  /** All of them at seats 0, 1, .. in the order of their numbers. */
  private static RingNames signedBy(String text) {
    RingNames x = told(text);
    for (int s = 0; s < x.count(0); s++) sign(x, s, s);
    return x;
  }

  // ---- two objects with the same past

  private static final int PASTS = 9;

  private static RingNames past(int number) {
    switch (number) {
      case 0: return new RingNames();
      case 1: { RingNames x = new RingNames(); say(x, "s1 0 0;d2;"); return x; }
      case 2: { RingNames x = busy(); say(x, "d4;n1;"); return x; }
      case 3: { RingNames x = busy(); say(x, "s0 0 0;d0;"); return x; }
      case 4: { RingNames x = busy(); until(x, 99); x.keep(1); return x; }
      case 5: { RingNames x = told("s1 0 0;s2 1 1;n2;"); x.signs(0, 0); x.signs(1, 1); x.scrape(0); x.keep(1); return x; }
      case 6: { RingNames x = new RingNames(); say(x, "d4;" + blanks(197)); return x; }
      case 7: { RingNames x = told("s1 0 0;s1 0 0;n1;"); x.keep(0); x.signs(0, 0); x.hour(); return x; }
      default: { RingNames x = signedBy(SEVEN + "d1;"); x.rate(0, 0); return x; }
    }
  }

  /** A ring with two names, one scraped, one who would not; an image of earlier; much to undo; a trace. */
  private static RingNames busy() {
    RingNames x = told("s1 0 6;s0 1 1;s0 0 0;s1 7 127;s2 0 9;d2;n5;");
    x.signs(0, 4);
    x.keep(0);
    x.signs(1, 0);
    x.signs(2, 2);
    x.scrape(0);
    x.rate(3, 0);
    return x;
  }

  private static void add(StringBuilder b, long answer) { b.append(answer).append(' '); }

  private static void lookAtRing(RingNames x, StringBuilder b) {
    for (int what = 0; what < 5; what++) add(b, x.now(what));
    for (int k = 0; k < 8; k++) { add(b, x.seat(k, 0)); add(b, x.seat(k, 1)); }
  }

  private static void lookAtCrew(RingNames x, StringBuilder b) {
    for (int s = 0; s < 7; s++) for (int what = 0; what < 6; what++) add(b, x.sailor(s, what));
    for (int what = 0; what < 4; what++) add(b, x.count(what));
    add(b, x.trace());
  }

  /** What is found if one looks at one side of an object: each side by itself, so that no object has more than 512 calls. */
  private static String side(RingNames x, int which) {
    StringBuilder b = new StringBuilder();
    switch (which) {
      case 0:
        lookAtRing(x, b);
        lookAtCrew(x, b);
        for (int s = 0; s < 7; s++) { add(b, x.sure(s)); add(b, x.chance(s, 0)); add(b, x.chance(s, 1)); }
        add(b, x.will()); add(b, x.begin()); add(b, x.orders()); add(b, x.first()); add(b, x.ask()); add(b, x.hang());
        add(b, x.shift(0)); add(b, x.shift(1)); add(b, x.clique(0)); add(b, x.clique(1)); add(b, x.odds(3, 1, 0)); add(b, x.bold(3));
        break;
      case 1:
        for (int i = 0; i < 11; i++) { add(b, x.undo()); lookAtRing(x, b); }
        break;
      case 2:
        for (int i = 0; i < 2; i++) { add(b, x.back(i)); lookAtRing(x, b); }
        add(b, x.undo());
        break;
      default:
        add(b, x.crew());
        lookAtCrew(x, b);
        lookAtRing(x, b);
        add(b, x.type('s')); add(b, x.clear());
        add(b, x.undo()); add(b, x.back(0)); add(b, x.back(1));
    }
    return b.toString();
  }

  private static void changesNothing(int past, String name, Function<RingNames, Number> call) {
    for (int which = 0; which < 4; which++) {
      RingNames called = past(past);
      call.apply(called);
      String is = side(called, which);
      String was = side(past(past), which);
      checks++;
      if (!is.equals(was)) miss(name + " changed something behind past " + past + ", side " + which + ":\n  was " + was + "\n  is  " + is);
    }
  }

  private static void refused(int past, String name, long want, Function<RingNames, Number> call) {
    due(name + " behind past " + past, call.apply(past(past)).longValue(), want);
    changesNothing(past, name, call);
  }

  /** Refused behind every past. */
  private static void never(String name, long want, Function<RingNames, Number> call) {
    for (int p = 0; p < PASTS; p++) refused(p, name, want, call);
  }

  private interface ByNumber { Number of(RingNames x, int number); }

  /** Numbers from .. to are answered behind a past; those beyond are refused behind every past. */
  private static void numbers(String name, int from, int to, int past, long code, ByNumber call) {
    for (int i = from; i <= to; i++) {
      checks++;
      long got = call.of(past(past), i).longValue();
      if (got == code) miss(name + " of " + i + " is refused");
    }
    for (int far : new int[] {from - 1, to + 1, LOW, FAR, from + 256, from + 32 * (to / 32 + 1), from - 32, LOW + from})
      if (far < from || far > to) never(name + " of " + far, code, x -> call.of(x, far));
  }

  // ---- what it is; the constants

  private static void anObject() {
    on("An object is used for at most 512 calls after it has been made; what later calls answer is free.");
    RingNames x = new RingNames();
    for (int i = 1; i <= 509; i++) due("call " + i, x.hour(), i <= 99 ? i : STATE);
    due("call 510", x.now(0), 99);
    due("call 511", x.undo(), 9);
    due("call 512", x.hour(), 99);
    for (int i = 513; i < 1200; i++) { x.hour(); x.undo(); x.type(i); x.crew(); x.ask(); x.rate(i % 7, 0); x.keep(i % 3); x.back(i % 3); }
    on("`NO = -1000000`: What none is, where a number may be below 0.");
    due("NO", RingNames.NO, NO);
    on("BAD = -1, STATE = -2, FULL = -3, NONE = -9");
    due("BAD", RingNames.BAD, BAD);
    due("STATE", RingNames.STATE, STATE);
    due("FULL", RingNames.FULL, FULL);
    due("NONE", RingNames.NONE, NONE);
    on("`RingNames()`: As told; no SAILORS.");
    RingNames fresh = new RingNames();
    due("sailors", fresh.count(0), 0);
    due("letters", fresh.count(3), 0);
    due("sailor 0", fresh.sailor(0, 0), BAD);
    due("signed", fresh.now(1), 0);
    due("there", fresh.now(2), 0);
    due("would", fresh.now(3), 0);
    due("to undo", fresh.now(4), 0);
    due("image 0", fresh.back(0), STATE);
    due("image 1", fresh.back(1), STATE);
    due("trace", fresh.trace(), 0);
  }

  // ---- 1 SAILORS

  private static void sailors() {
    on("SAILORS 0 .. (7 at most)");
    for (int n = 0; n <= 7; n++) {
      RingNames x = told("s0 0 0;".repeat(n));
      due(n + " sailors", x.count(0), n);
      if (n > 0) due("the last of " + n, x.sailor(n - 1, 0), 0);
      due("behind the last of " + n, x.sailor(n, 0), BAD);
    }
    due("eight", read("s0 0 0;".repeat(8)), -10 - 49);
    on("a WATCH (0 .. 2)");
    for (int w = 0; w <= 2; w++) due("watch " + w, told("s" + w + " 0 0;").sailor(0, 0), w);
    for (int w = 3; w <= 127; w++) due("watch " + w, read("s" + w + " 0 0;"), -11);
    due("below 0", read("s-1 0 0;"), -11);
    on("COURAGE (0 .. 7)");
    for (int c = 0; c <= 7; c++) due("courage " + c, told("s0 " + c + " 0;").sailor(0, 1), c);
    for (int c = 8; c <= 127; c++) due("courage " + c, read("s0 " + c + " 0;"), -13);
    due("below 0", read("s0 -1 0;"), -13);
    trust();
    pen();
  }

  private static void trust() {
    on("whom they TRUST (SAILORS 0 .. 6 as bits; any");
    for (int t = 0; t <= 127; t++) due("trust " + t, told("s0 0 " + t + ";" + SEVEN.substring(7)).sailor(0, 2), t & ~1);
    due("trust 128", read("s0 0 128;"), -15);
    due("trust 255", read("s0 0 255;"), -15);
    due("below 0", read("s0 0 -1;"), -15);
    for (int b = 0; b < 6; b++) {
      RingNames x = told(SEVEN.substring(7) + "s0 1 " + (1 << b) + ";");
      due("SAILOR " + b + " as a bit", x.sailor(6, 2), 1 << b);
      x.hour();
      x.signs(b == 0 ? 1 : 0, 0);
      due("another one signed", x.sailor(6, 5), 0);
      x.signs(b, 1);
      x.hour();
      due("he signed whom the bit tells", x.sailor(6, 5), 1);
    }
    on("also such as there are not");
    RingNames x = told("s1 0 0;s2 1 124;");
    due("of those there are", x.sailor(1, 2), 0);
    x.signs(0, 0);
    due("they did not sign", x.sailor(1, 5), 0);
    due("they never will", x.will(), 1);
    due("no clique with them", x.clique(1), 1);
    due("MATE counts those there are", x.rate(2, 1), 1);
    RingNames one = told("s1 0 127;");
    due("alone", one.sailor(0, 2), 0);
    due("alone", one.rate(2, 0), 0);
    RingNames last = told("s0 0 64;" + SEVEN.substring(7));
    due("the seventh, who is there", last.sailor(0, 2), 64);
    due("the seventh, who is not", told("s0 0 64;" + SEVEN.substring(14)).sailor(0, 2), 0);
    on("oneself does not count");
    for (int s = 0; s < 7; s++) {
      RingNames y = told(SEVEN.substring(0, 7 * s) + "s0 1 127;" + SEVEN.substring(0, 42 - 7 * s));
      due("all but " + s, y.sailor(s, 2), 127 & ~(1 << s));
      due("MATE", y.rate(2, s), 1 - 6);
    }
    RingNames self = told("s1 0 0;s2 1 2;");
    self.signs(0, 0);
    due("not for WOULD", self.sailor(1, 5), 0);
    due("not for WILL", self.will(), 1);
    due("not for MATE", self.rate(2, 1), 1);
  }

  private static void pen() {
    on("DIP (1 .. 4; 3 at first)");
    for (int d = 1; d <= 4; d++) due("d" + d, told("d" + d + ";").count(1), d);
    due("d0", read("d0;"), -11);
    for (int d = 5; d <= 127; d++) due("d" + d, read("d" + d + ";"), -11);
    due("at first", new RingNames().count(1), 3);
    due("not told", told("n2;").count(1), 3);
    on("SEATS of the ring 0 .. n - 1 (1 .. 8; 8 at first)");
    for (int n = 1; n <= 8; n++) {
      RingNames x = told("s1 0 0;n" + n + ";");
      due("n" + n, x.count(2), n);
      due("its last", x.seat(n - 1, 0), NONE);
      due("its last", x.seat(n - 1, 1), 0);
      due("behind its last", x.seat(n, 0), BAD);
      due("behind its last", x.seat(n, 1), BAD);
      due("signs behind its last", x.signs(0, n), BAD);
      due("signs at its last", x.signs(0, n - 1), 3);
      due("scrapes behind its last", x.scrape(n), BAD);
      due("scrapes its last", x.scrape(n - 1), 0);
    }
    due("n0", read("n0;"), -11);
    for (int n = 9; n <= 127; n++) due("n" + n, read("n" + n + ";"), -11);
    due("at first", new RingNames().count(2), 8);
    due("at first the eighth", new RingNames().seat(7, 0), NONE);
    due("at first a ninth", new RingNames().seat(8, 0), BAD);
    due("not told", told("d2;").count(2), 8);
  }

  // ---- the text

  private static void text() {
    on("They are a text (200 letters at most), told letter by letter");
    RingNames x = new RingNames();
    for (int i = 1; i <= 200; i++) due("letter " + i, x.type(i <= 197 ? ' ' : "d1;".charAt(i - 198)), i);
    due("one more", x.type(';'), FULL);
    due("and again", x.type(0), FULL);
    due("still", x.count(3), 200);
    due("all of them are read", x.crew(), 1);
    due("to the last", x.count(1), 1);
    on("blanks (32), any number, ahead of, between, behind TOKENS");
    due("none", read("s0 0 0;d1;n1;"), 3);
    due("one of each place", read(" s 0 0 0 ; d 1 ; n 1 ; "), 3);
    due("many", read("     s     2     7     127     ;     d     4     ;     n     8     ;     "), 3);
    due("ahead, as many as can be", read(blanks(197) + "d1;"), 1);
    due("between, as many as can be", read("d" + blanks(197) + "4;"), 1);
    due("behind, as many as can be", read("d4;" + blanks(197)), 1);
    for (int c : new int[] {0, 9, 10, 13, 31, 33, 160, 255}) {
      due("no blank ahead: " + c, read((char) c + "d1;"), -10);
      due("no blank between: " + c, read("d" + (char) c + "1;"), -11);
      due("no blank behind: " + c, read("d1;" + (char) c), -13);
    }
    on("(needed only between two NUMBERS)");
    due("W and C", read("s00 0;"), -11);
    due("C and T", read("s0 10;"), -13);
    due("all three", read("s127;"), -11);
    due("nowhere else", read("s1 1 1;d1;s2 2 2;n1;"), 4);
    due("one blank each", told("s2 7 127;").sailor(0, 1), 7);
    items();
  }

  private static void items() {
    on("ITEMS (none, too)");
    due("no letter", read(""), 0);
    due("a blank", read(" "), 0);
    due("200 blanks", read(blanks(200)), 0);
    due("one", read("d1;"), 1);
    due("as many as can be", read(SEVEN + "d1;n1;"), 9);
    RingNames x = busy();
    due("none, and all is anew", x.crew(), 0);
    due("no sailors", x.count(0), 0);
    on("each ended by ;");
    due("the last one is not", read("d1;n1"), -10 - 5);
    due("the first one is not", read("d1 n1;"), -10 - 3);
    due("a sailor is not", read("s0 0 0 s0 0 0;"), -10 - 7);
    due("a sailor is not", read("s0 0 0d1;"), -10 - 6);
    due("seats are not", read("n1d1;"), -10 - 2);
    due("; alone", read(";"), -10);
    due("; twice", read("d1;;"), -10 - 3);
    on("s W C T (a SAILOR)");
    due("no number", read("s;"), -11);
    due("one", read("s0;"), -12);
    due("two", read("s0 0;"), -14);
    due("three", read("s0 0 0;"), 1);
    due("four", read("s0 0 0 0;"), -17);
    due("no s", read("0 0 0;"), -10);
    due("s twice", read("ss0 0 0;"), -11);
    due("s among the numbers", read("s0 s0 0;"), -13);
    on("d N (DIP), n N (SEATS");
    due("no dip", read("d;"), -11);
    due("two dips", read("d1 1;"), -13);
    due("no seats", read("n;"), -11);
    due("two seats", read("n1 1;"), -13);
    on("once each at most");
    due("d", read("d1;d1;"), -13);
    due("n", read("n1;n1;"), -13);
    due("d behind n", read("d1;n1;d1;"), -16);
    due("n behind d", read("n1;d1;n1;"), -16);
    due("d far behind", read("d1;" + SEVEN + "d1;"), -10 - 52);
    due("once each", read("n1;d1;"), 2);
    RingNames again = told("d1;n1;");
    say(again, "d2;n2;");
    due("once in each text", again.crew(), 2);
    say(again, "d1;n1;d");
    due("a fault", again.crew(), -16);
    again.clear();
    say(again, "n3;d3;");
    due("a text with a fault is not remembered", again.crew(), 2);
    faults();
  }

  private static void faults() {
    on("TOKENS are the letters s, d, n, NUMBERS and ;");
    for (int c = 0; c < 256; c++)
      if (c != ' ') due("letter " + c + " alone", read("" + (char) c), c == 's' || c == 'd' || c == 'n' ? -11 : -10);
    on("FAULT: the place of the first letter of the first TOKEN that can't stand there");
    due("the first letter", read("d 100;"), -12);
    due("behind blanks", read("   0"), -13);
    due("the first of two", read("d9;n9;"), -11);
    due("ahead of another letter", read("dd x"), -11);
    due("ahead of a long number", read("d;999"), -11);
    due("ahead of a 0 ahead", read("d;00"), -11);
    due("ahead of the end", read("d1;;s"), -13);
    due("the 200th letter", read(blanks(199) + ";"), -209);
    due("the first of all", read(";" + blanks(199)), -10);
    on("(d, n again, an eighth s, a NUMBER beyond what it may be, too)");
    due("d again, its d", read("d1; d 9;"), -14);
    due("n again, its n", read("n1; n 9;"), -14);
    due("an eighth s, its s", read(SEVEN + " s 9 9 9;"), -60);
    due("the seventh s", read(SEVEN.substring(7) + "s3 0 0;"), -53);
    due("d behind seven", read(SEVEN + "d1;"), 8);
    due("a number beyond, its first letter", read("s0 0  128 ;"), -16);
    on("of any other letter, .. that TOKEN's");
    due("ahead", read("xd1;"), -10);
    due("among", read("s0 0 x0;"), -15);
    due("right behind a number", read("s0 0 0x;"), -16);
    due("behind", read("d1;  x"), -15);
    due("minus", read("s0 0 -0;"), -15);
    due("plus", read("d+1;"), -11);
    due("a large letter", read("S0 0 0;"), -10);
    on("a NUMBER above 127 .. that TOKEN's");
    due("127", read("s0 0 127;"), 1);
    for (String n : new String[] {"128", "129", "130", "200", "256", "999", "1000", "32768", "65536", "2147483647", "2147483648", "4294967296",
        "4294967297", "9223372036854775808", "18446744073709551616", "18446744073709551617", "1" + "0".repeat(190)})
      due(n, read("s0 0 " + n), -15);
    due("where none can stand", read("d1; 128"), -14);
    due("where a d must", read("128"), -10);
    on("or with a 0 ahead of others, that TOKEN's");
    due("0 alone", read("s0 0 0;"), 1);
    due("10", read("d10;"), -11);
    due("00", read("s00 0 0;"), -11);
    due("00", read("s0 00 0;"), -13);
    due("00", read("s0 0 00;"), -15);
    due("01", read("s01 0 0;"), -11);
    due("07", read("s0 07 0;"), -13);
    due("0127", read("s0 0 0127;"), -15);
    due("01", read("d01;"), -11);
    due("08", read("n08;"), -11);
    due("many 0", read("d" + "0".repeat(198) + "1"), -11);
    due("where none can stand", read("d1; 00"), -14);
    on("the text's length, if it ends too early");
    for (String start : new String[] {"s", "s0", "s0 0", "s0 0 0", "d", "d1", "n", "n1", "d1;s", "s0 0 0;n", "s2 7 127", "s0 ", "d1   ", "d" + blanks(199)})
      due("\"" + start + "\"", read(start), -10 - start.length());
    due("200 letters", read(blanks(199) + "d"), -210);
    due("it does not end too early", read("d1; "), 1);
    RingNames longer = new RingNames();
    say(longer, "d     ");
    longer.clear();
    say(longer, "d");
    due("blanks of a longer text, cleared", longer.crew(), -11);
    longer.clear();
    say(longer, "d128;");
    longer.clear();
    say(longer, "d1");
    due("figures of a longer text, cleared", longer.crew(), -12);
    longer.clear();
    say(longer, "d1;n1;");
    due("a longer text, read", longer.crew(), 2);
    say(longer, "d2;");
    due("a shorter one behind it", longer.crew(), 1);
    due("its seats are not told", longer.count(2), 8);
  }

  // ---- 2 THE HOUR

  private static void hours() {
    on("THE HOUR (0 at first; 99 at most)");
    RingNames x = new RingNames();
    due("at first", x.now(0), 0);
    for (int h = 1; h <= 99; h++) due("hour", x.hour(), h);
    due("a hundredth", x.hour(), STATE);
    due("stays", x.now(0), 99);
    RingNames y = told("s0 0 0;s1 0 0;");
    until(y, 98);
    due("signed in 98", y.signs(0, 0), 3);
    due("it is 99", y.now(0), 99);
    due("he would, in 99", y.sailor(1, 5), 1);
    due("signs in 99", y.signs(1, 1), STATE);
    due("an hour behind 99", y.hour(), STATE);
    due("stays", y.now(0), 99);
    on("in it the WATCH that is what is left over of it by 3 is on deck, the others may sign");
    RingNames z = told("s0 0 0;s1 0 0;s2 0 0;");
    for (int h = 0; h <= 99; h++) {
      due("hour " + h, z.now(3), 7 & ~(1 << h % 3));
      due("on deck in " + h, z.signs(h % 3, 0), STATE);
      z.hour();
    }
    would();
  }

  private static void would() {
    on("A SAILOR WOULD sign, if he did not yet");
    RingNames x = told("s1 0 0;s1 0 0;");
    due("not yet", x.sailor(0, 5), 1);
    x.signs(0, 0);
    x.hour();
    due("he did", x.sailor(0, 5), 0);
    due("the other did not", x.now(3), 2);
    due("signs again", x.signs(0, 1), STATE);
    x.scrape(0);
    due("he did, though scraped", x.sailor(0, 5), 0);
    due("signs again", x.signs(0, 0), STATE);
    x.undo();
    x.undo();
    x.undo();
    due("not yet, behind undo", x.sailor(0, 5), 1);
    on("is not on deck");
    RingNames deck = told("s2 0 0;");
    due("hour 0", deck.sailor(0, 5), 1);
    deck.hour();
    due("hour 1", deck.sailor(0, 5), 1);
    deck.hour();
    due("hour 2", deck.sailor(0, 5), 0);
    due("signs in 2", deck.signs(0, 0), STATE);
    deck.hour();
    due("hour 3", deck.sailor(0, 5), 1);
    due("signs in 3", deck.signs(0, 0), 3);
    on("as many signed already (scraped ones, too) as his COURAGE at least");
    for (int c = 0; c <= 7; c++) {
      RingNames y = told(SEVEN.substring(7) + "s0 " + c + " 63;");
      for (int n = 0; n <= 6; n++) {
        if (y.now(0) % 3 == 0) y.hour();
        due("courage " + c + ", " + n + " signed", y.sailor(6, 5), n >= c ? 1 : 0);
        if (n < c) due("signs", y.signs(6, 7), STATE);
        if (n < 6) y.signs(n, n);
      }
    }
    RingNames gone = told("s1 0 0;s1 0 0;s2 2 1;");
    gone.signs(0, 0);
    gone.hour();
    gone.scrape(0);
    gone.signs(1, 0);
    due("one of two is scraped", gone.sailor(2, 5), 1);
    gone.scrape(0);
    due("both are scraped", gone.sailor(2, 5), 1);
    due("signs", gone.signs(2, 0), 1);
    on("and, if COURAGE is not 0, one at least whom he TRUSTS, of those that signed (scraped ones, too)");
    RingNames z = told("s1 0 0;s1 0 0;s1 0 0;s1 1 0;s1 1 2;s1 1 7;s1 2 4;");
    due("courage 0, he trusts nobody", z.now(3), 7);
    z.signs(0, 0);
    z.hour();
    due("0 signed", z.now(3), 2 | 4 | 32);
    z.signs(1, 1);
    due("0, 1 signed", z.now(3), 4 | 16 | 32);
    z.scrape(1);
    due("1 is scraped", z.now(3), 4 | 16 | 32);
    z.signs(2, 1);
    z.hour();
    due("0, 1, 2 signed", z.now(3), 16 | 32 | 64);
    due("he trusts nobody", z.signs(3, 5), STATE);
    due("he trusts one", z.signs(6, 5), 3);
  }

  private static void done() {
    on("SIGNED: one who WOULD, at a free SEAT");
    RingNames x = told("s1 0 0;s1 0 0;s2 0 0;n2;");
    due("on deck", x.signs(2, 5), BAD);
    due("a free seat", x.signs(0, 1), 3);
    due("the seat is not free", x.signs(2, 1), STATE);
    due("he would not", x.signs(1, 0), STATE);
    due("the last free seat", x.signs(2, 0), 2);
    due("no seat is free", x.signs(1, 0), STATE);
    due("no seat is free", x.signs(1, 1), STATE);
    due("though he would", x.sailor(1, 5), 1);
    on("INK of it: DIP less what is left over, by DIP, of how many signed ahead of him (DIP the darkest)");
    for (int d = 1; d <= 4; d++) {
      RingNames y = told(SEVEN + "d" + d + ";n8;");
      for (int s = 0; s < 7; s++) {
        due("dip " + d + ", " + s + " ahead", sign(y, s, 7 - s), d - s % d);
        due("as it is seen", y.seat(7 - s, 1), d - s % d);
        if (s % 2 == 0) y.scrape(7 - s);
      }
    }
    on("then it is the next HOUR");
    RingNames z = told("s1 0 0;s0 0 0;");
    z.signs(0, 0);
    due("from 0", z.now(0), 1);
    z.signs(1, 1);
    due("from 1", z.now(0), 2);
    on("An HOUR goes by without.");
    RingNames h = busy();
    StringBuilder was = new StringBuilder();
    StringBuilder is = new StringBuilder();
    for (int k = 0; k < 5; k++) { add(was, h.seat(k, 0)); add(was, h.seat(k, 1)); }
    due("signed", h.now(1), 7);
    due("which it is", h.hour(), 4);
    for (int k = 0; k < 5; k++) { add(is, h.seat(k, 0)); add(is, h.seat(k, 1)); }
    due("signed still", h.now(1), 7);
    due("the ring is as it was", is.toString().equals(was.toString()) ? 1 : 0, 1);
    on("SCRAPED: a name is there no more (its SEAT is free again, INK gone); who it was has SIGNED for good.");
    RingNames s = told("s1 0 0;s1 0 0;n1;");
    s.signs(1, 0);
    due("who it was", s.scrape(0), 1);
    due("seat", s.seat(0, 0), NONE);
    due("ink", s.seat(0, 1), 0);
    due("there", s.now(2), 0);
    due("his seat", s.sailor(1, 4), NONE);
    due("signed for good", s.now(1), 2);
    due("signed for good", s.sailor(1, 3), 1);
    due("no hour went by", s.now(0), 1);
    due("again", s.scrape(0), STATE);
    s.hour();
    due("he can't again", s.signs(1, 0), STATE);
    due("another can, lighter", s.signs(0, 0), 2);
    until(s, 99);
    due("in hour 99, too", s.scrape(0), 0);
    on("4 his SEAT (NONE)");
    RingNames seat = told(SEVEN);
    for (int i = 0; i < 7; i++) {
      due("not yet, " + i, seat.sailor(i, 4), NONE);
      sign(seat, i, 7 - i);
      due("his seat, " + i, seat.sailor(i, 4), 7 - i);
    }
    for (int i = 0; i < 7; i++) {
      seat.scrape(7 - i);
      due("no more, " + i, seat.sailor(i, 4), NONE);
    }
    undone();
  }

  private static void undone() {
    on("UNDONE: the latest signs(), hour(), scrape() that was not refused");
    RingNames x = told("s1 0 0;s2 0 0;d2;");
    due("nothing", x.undo(), STATE);
    x.signs(0, 3);
    due("signs", x.now(4), 1);
    x.hour();
    due("hour", x.now(4), 2);
    x.scrape(3);
    due("scrape", x.now(4), 3);
    x.signs(0, 3);
    x.signs(9, 3);
    x.scrape(3);
    x.scrape(8);
    due("not what was refused", x.now(4), 3);
    x.keep(0);
    x.rate(0, 0);
    x.type('x');
    x.crew();
    x.clear();
    due("nothing else", x.now(4), 3);
    due("scrape: how many more", x.undo(), 2);
    due("the name", x.seat(3, 0), 0);
    due("its ink", x.seat(3, 1), 2);
    due("hour: how many more", x.undo(), 1);
    due("the hour", x.now(0), 1);
    due("signs: how many more", x.undo(), 0);
    due("the seat", x.seat(3, 0), NONE);
    due("the ink", x.seat(3, 1), 0);
    due("he did not sign", x.sailor(0, 3), 0);
    due("the hour", x.now(0), 0);
    due("nothing more", x.undo(), STATE);
    due("he may again", x.signs(0, 3), 2);
    due("the latest of all", x.undo(), 0);
    RingNames late = new RingNames();
    until(late, 99);
    late.hour();
    due("a refused hour", late.now(4), 10);
    due("the hour that was not refused", late.undo(), 9);
    due("98", late.now(0), 98);
    on("(10 are known, older ones are lost)");
    for (int n = 0; n <= 31; n++) {
      RingNames y = new RingNames();
      until(y, n);
      int known = Math.min(n, 10);
      due("behind " + n, y.now(4), known);
      for (int left = known - 1; left >= 0; left--) {
        due("of " + n, y.undo(), left);
        due("an hour back of " + n, y.now(0), n - known + left);
        due("known of " + n, y.now(4), left);
      }
      due("no more of " + n, y.undo(), STATE);
      due("no further back of " + n, y.now(0), n - known);
    }
    RingNames z = new RingNames();
    until(z, 15);
    for (int i = 0; i < 4; i++) z.undo();
    due("15 less 4", z.now(0), 11);
    due("six are left", z.now(4), 6);
    until(z, 14);
    due("nine", z.now(4), 9);
    until(z, 16);
    due("ten", z.now(4), 10);
    for (int i = 9; i >= 0; i--) due("back", z.undo(), i);
    due("to 6", z.now(0), 6);
    due("no more", z.undo(), STATE);
    RingNames names = told("s0 0 0;s0 0 0;");
    until(names, 1);
    names.signs(0, 7);
    for (int i = 0; i < 9; i++) names.hour();
    for (int i = 0; i < 9; i++) names.undo();
    due("the tenth is a name", names.seat(7, 0), 0);
    due("it is undone", names.undo(), 0);
    due("it is gone", names.seat(7, 0), NONE);
    due("the eleventh is lost", names.undo(), STATE);
    due("hour 1", names.now(0), 1);
  }

  // ---- 3 who will

  private static void who() {
    on("WILL: SAILORS (bits) who will have SIGNED, if from NOW on all who WOULD, but for the WATCH, do, over and over.");
    due("no sailors", new RingNames().will(), 0);
    due("one", told("s0 0 0;").will(), 1);
    due("all on deck", told("s0 0 0;s0 0 0;").will(), 3);
    due("nobody begins", told("s0 1 2;s0 1 1;").will(), 0);
    due("courage as many as there are", told("s0 0 0;s0 0 0;s0 2 1;").will(), 7);
    due("courage one above", told("s0 0 0;s0 0 0;s0 3 1;").will(), 3);
    due("six steps up", told("s0 0 0;s0 1 1;s0 2 2;s0 3 4;s0 4 8;s0 5 16;s0 6 32;").will(), 127);
    due("six steps down", told("s0 6 2;s0 5 4;s0 4 8;s0 3 16;s0 2 32;s0 1 64;s0 0 0;").will(), 127);
    due("courage 7 of seven never", told(SEVEN.substring(7) + "s0 7 127;").will(), 63);
    RingNames x = told("s1 0 0;s1 1 1;s1 1 4;n1;");
    x.signs(0, 0);
    x.scrape(0);
    due("those who signed, too, and by them; seats or not", x.will(), 3);
    until(x, 99);
    due("hour 99", x.will(), 3);
    RingNames all = signedBy(SEVEN);
    due("all signed", all.will(), 127);
    on("BEGIN: the fewest SAILORS (bits; who did not sign yet) who must sign NOW at once, COURAGE or not, so that all will have in the end");
    due("no sailors", new RingNames().begin(), 0);
    due("all will anyhow", told("s0 0 0;s0 1 1;s0 2 3;").begin(), 0);
    due("one, too brave for all", told("s0 7 0;").begin(), 1);
    due("each of seven", told("s0 7 0;".repeat(7)).begin(), 127);
    due("one moves six", told("s0 1 64;s0 1 64;s0 1 64;s0 1 64;s0 1 64;s0 1 64;s0 7 0;").begin(), 64);
    due("on deck or not", told("s0 1 0;").begin(), 1);
    due("at once: two of courage 2", told("s0 2 6;s0 2 5;s0 2 3;").begin(), 3);
    RingNames signed = told("s1 0 0;s1 7 0;s1 2 2;");
    due("ahead of the signing", signed.begin(), 2);
    signed.signs(0, 0);
    due("who did not sign yet", signed.begin(), 2);
    until(signed, 99);
    due("hour 99", signed.begin(), 2);
    RingNames every = signedBy(SEVEN);
    due("all signed", every.begin(), 0);
    for (int k = 0; k < 7; k++) every.scrape(k);
    due("all signed, all scraped", every.begin(), 0);
    on("of as few the least bits");
    due("of two one", told("s0 1 2;s0 1 1;").begin(), 1);
    due("of 3 and 4, the last two", told("s0 0 0;s0 0 0;s0 0 0;s0 1 16;s0 1 8;").begin(), 8);
    due("few ahead of least: 4, not 3", told("s0 1 4;s0 1 4;s0 7 0;").begin(), 4);
    due("of two and two", told("s0 1 8;s0 1 4;s0 1 2;s0 1 1;").begin(), 3);
  }

  // ---- 3 orders

  private static void orders() {
    on("(1, if nobody is there)");
    due("a new object", new RingNames().orders(), 1);
    due("told", told(SEVEN).orders(), 1);
    RingNames gone = told("s1 0 0;s1 1 1;d1;");
    gone.signs(0, 0);
    gone.scrape(0);
    due("scraped", gone.orders(), 1);
    until(gone, 99);
    due("hour 99", gone.orders(), 1);
    on("ORDERS: in how many orders those who are there can have SIGNED, nobody else having done so");
    RingNames x = told("s1 0 0;s1 1 1;d1;");
    x.signs(0, 0);
    x.hour();
    x.signs(1, 1);
    due("both there", x.orders(), 1);
    x.scrape(0);
    due("he whom 1 trusts is not there", x.orders(), 0);
    x.undo();
    x.scrape(1);
    due("0 alone", x.orders(), 1);
    on("so that all INK is as seen");
    int[] many = {5040, 144, 24, 8};
    for (int d = 1; d <= 4; d++) {
      RingNames y = signedBy(SEVEN + "d" + d + ";");
      until(y, 99);
      due("dip " + d, y.orders(), many[d - 1]);
    }
    RingNames light = told("s1 0 0;s1 0 0;s1 0 0;s1 0 0;d3;");
    for (int s = 0; s < 4; s++) sign(light, s, s);
    due("3 2 1 3", light.orders(), 2);
    light.scrape(0);
    due("2 1 3: one order still", light.orders(), 1);
    light.scrape(3);
    due("2 1: none", light.orders(), 0);
    light.undo();
    light.scrape(1);
    due("1 3: none", light.orders(), 0);
    light.undo();
    light.scrape(2);
    due("2 3: one", light.orders(), 1);
    on("each WOULD (but for the WATCH) by those ahead of him in it");
    for (int c = 0; c <= 3; c++) {
      RingNames y = told("s1 0 0;s1 0 0;s1 0 0;s1 " + c + " 7;d1;");
      for (int s = 0; s < 4; s++) sign(y, s, s);
      until(y, 30);
      due("three and one of courage " + c, y.orders(), 24 - 6 * c);
    }
    RingNames trusts = told("s1 0 0;s1 0 0;s1 1 2;d1;");
    for (int s = 0; s < 3; s++) sign(trusts, s, s);
    until(trusts, 30);
    due("2 behind 1 alone", trusts.orders(), 3);
    RingNames ring = told("s1 0 0;s1 1 5;s1 1 2;d1;");
    for (int s = 0; s < 3; s++) sign(ring, s, s);
    until(ring, 30);
    due("0 1 2", ring.orders(), 1);
    ring.scrape(0);
    due("each trusts the other, nobody begins", ring.orders(), 0);
    hoursForOrders();
  }

  private static void hoursForOrders() {
    on("that there were HOURS for it: each in an HOUR when he was not on deck");
    RingNames deck = told("s1 0 0;s0 0 0;d1;");
    deck.signs(0, 0);
    deck.signs(1, 1);
    due("ahead of 2: 1 can't in 0", deck.orders(), 1);
    due("first is 0", deck.first(), 1);
    RingNames same = told("s2 0 0;s2 0 0;d1;");
    same.signs(0, 0);
    same.signs(1, 1);
    due("ahead of 2: both can in 0 and 1", same.orders(), 2);
    RingNames third = told("s2 0 0;s2 0 0;s2 0 0;d1;");
    for (int s = 0; s < 3; s++) sign(third, s, s);
    due("0, 1 and 3 of watch 2", third.now(0), 4);
    due("all six", third.orders(), 6);
    on("one behind the other");
    RingNames hour = told("s1 0 0;s1 0 0;s0 0 0;d1;");
    hour.signs(0, 0);
    hour.signs(2, 1);
    hour.signs(1, 2);
    due("ahead of 3: watch 1 in 0 and 2, watch 0 in 1", hour.orders(), 2);
    hour.hour();
    due("ahead of 4: watch 0 in 1, then 2 and 3", hour.orders(), 4);
    hour.hour();
    due("ahead of 5: watch 1 in 0 and 2 or 3, watch 0 in 4", hour.orders(), 6);
    on("all ahead of THE HOUR that is NOW");
    due("in 0, ahead of 1", signedBy("s1 0 0;").orders(), 1);
    due("in 1, ahead of 2", signedBy("s0 0 0;").orders(), 1);
    RingNames now = told("s1 0 0;s0 0 0;d1;");
    now.signs(0, 0);
    now.signs(1, 1);
    due("0 would have come in 2, ahead of 2", now.orders(), 1);
    now.hour();
    due("0 can have come in 2, ahead of 3", now.orders(), 2);
    now.undo();
    due("no more", now.orders(), 1);
    RingNames whole = signedBy("s0 0 0;s0 0 0;s1 0 0;s1 0 0;s2 0 0;s2 0 0;s2 0 0;d1;");
    until(whole, 14);
    due("each waits one hour at most: ahead of 14 all orders can have come", whole.orders(), 5040);
    firsts();
  }

  private static void firsts() {
    on("FIRST: who can have been the first one (bits).");
    due("nobody is there", new RingNames().first(), 0);
    due("told alone", told(SEVEN).first(), 0);
    RingNames one = told(SEVEN);
    sign(one, 6, 0);
    due("the seventh", one.first(), 64);
    one.scrape(0);
    due("scraped", one.first(), 0);
    RingNames all = signedBy(SEVEN + "d1;");
    until(all, 30);
    due("each of seven", all.first(), 127);
    RingNames none = past(5);
    due("there", none.now(2), 2);
    due("no orders", none.orders(), 0);
    due("no orders", none.first(), 0);
    on("SURE: those (bits) who were ahead of one in all of ORDERS (none, if there are no ORDERS).");
    RingNames x = signedBy("s0 0 0;s0 1 1;s0 2 3;s0 3 4;s0 4 8;s0 5 16;s0 6 32;d1;");
    due("one order", x.orders(), 1);
    for (int s = 0; s < 7; s++) due("of " + s, x.sure(s), (1 << s) - 1);
    RingNames down = told("s0 6 2;s0 5 4;s0 4 8;s0 3 16;s0 2 32;s0 1 64;s0 0 0;d1;");
    for (int s = 6; s >= 0; s--) sign(down, s, s);
    due("one order", down.orders(), 1);
    for (int s = 0; s < 7; s++) due("of " + s, down.sure(s), 127 & ~((2 << s) - 1));
    until(all, 40);
    for (int s = 0; s < 7; s++) due("any order, of " + s, all.sure(s), 0);
    RingNames two = signedBy("s1 0 0;s1 0 0;s1 1 3;s1 1 1;d1;");
    until(two, 30);
    due("of 0", two.sure(0), 0);
    due("of 1", two.sure(1), 0);
    due("of 2, behind the one or the other", two.sure(2), 0);
    due("of 3, behind 0", two.sure(3), 1);
    due("no orders, alone", none.sure(1), 0);
    RingNames light = signedBy("s1 0 0;s1 0 0;s1 0 0;d3;");
    light.scrape(0);
    due("two light ones", light.now(2), 6);
    due("no orders", light.orders(), 0);
    due("no orders, of 1", light.sure(1), 0);
    due("no orders, of 2", light.sure(2), 0);
    due("alone", signedBy("s0 0 0;").sure(0), 0);
    on("`int sure(int s)`: SURE, as bits. BAD (one who is not there, too).");
    RingNames bad = told("s1 0 0;s1 0 0;");
    due("he did not sign", bad.sure(0), BAD);
    bad.signs(0, 0);
    due("he did", bad.sure(0), 0);
    due("he did not", bad.sure(1), BAD);
    bad.scrape(0);
    due("scraped", bad.sure(0), BAD);
    chances();
  }

  private static void chances() {
    on("CHANCE of one who is there: in how many of ORDERS he is the first, by how many there are: a fraction");
    RingNames all = signedBy(SEVEN + "d1;");
    for (int s = 0; s < 7; s++) {
      due("720 of 5040", all.chance(s, 0), 1);
      due("720 of 5040", all.chance(s, 1), 7);
    }
    RingNames one = signedBy("s0 0 0;");
    due("1 of 1", one.chance(0, 0), 1);
    due("1 of 1", one.chance(0, 1), 1);
    RingNames x = signedBy("s1 0 0;s1 0 0;s1 1 2;d1;");
    until(x, 30);
    due("0 in 1 of 3", x.chance(0, 0), 1);
    due("0 in 1 of 3", x.chance(0, 1), 3);
    due("1 in 2 of 3", x.chance(1, 0), 2);
    due("1 in 2 of 3", x.chance(1, 1), 3);
    due("2 in none of 3", x.chance(2, 0), 0);
    due("2 in none of 3", x.chance(2, 1), 1);
    on("(0 by 1 without)");
    due("upper", past(5).chance(1, 0), 0);
    due("lower", past(5).chance(1, 1), 1);
    on("`int chance(int s, int what)`: .. BAD (one who is not there, too).");
    RingNames bad = told("s1 0 0;s1 0 0;");
    due("he did not sign", bad.chance(0, 0), BAD);
    bad.signs(0, 0);
    due("he did", bad.chance(0, 1), 1);
    due("he did not", bad.chance(1, 1), BAD);
    bad.scrape(0);
    due("scraped", bad.chance(0, 1), BAD);
    asks();
  }

  private static void asks() {
    on("ASK: the fewest of those who are there (bits; of as few the least) such that .. the first one is known, whichever of ORDERS it was");
    due("nobody is there: nobody need be asked", new RingNames().ask(), 0);
    due("all scraped", past(7).ask(), 0);
    due("one", signedBy("s0 0 0;").ask(), 0);
    for (int n = 2; n <= 7; n++) {
      RingNames y = signedBy("s0 0 0;".repeat(n) + "d1;");
      until(y, 60);
      due("of " + n + " in any order all but one", y.ask(), (1 << n - 1) - 1);
    }
    RingNames x = told(SEVEN + "d1;");
    sign(x, 6, 0);
    sign(x, 3, 1);
    due("of those who are there the least", x.ask(), 8);
    due("one can be first alone", signedBy("s0 0 0;s0 1 1;s0 1 3;s0 1 7;d1;").ask(), 0);
    RingNames few = signedBy("s1 0 0;s2 0 0;s0 1 3;s0 1 3;d2;");
    until(few, 30);
    due("2 is dark, 1 light: 0 or another first", few.first(), 1);
    RingNames either = signedBy("s1 0 0;s1 0 0;s1 1 1;d1;");
    until(either, 30);
    due("0 1 2, 0 2 1, 1 0 2: 0 tells all", either.ask(), 1);
    RingNames paired = signedBy("s0 0 0;s0 0 0;s1 0 0;s1 0 0;d2;");
    until(paired, 30);
    due("0 2 dark, 1 3 light: one dark one tells", paired.ask(), 1);
    RingNames dark = signedBy("s0 0 0;".repeat(6) + "d2;");
    until(dark, 60);
    due("0 2 4 dark: two of them", dark.ask(), 1 | 4);
    dark.scrape(5);
    dark.scrape(3);
    due("no orders", dark.ask(), NONE);
    dark.scrape(4);
    due("0 2 dark, 1 light", dark.ask(), 1);
    for (int i = 0; i < 3; i++) dark.undo();
    due("asked again", dark.ask(), 1 | 4);
    asksMany("s1 0 64;s0 1 63;s0 0 48;s1 0 3;s0 0 16;s0 2 8;d1;", "012345h", 56, 12);
    asksMany("s1 0 27;s0 1 55;s1 0 54;s2 0 79;s0 0 51;s0 3 94;d1;", "012345h", 82, 7);
    asksMany("s1 0 84;s2 1 53;s1 0 21;s1 0 125;s2 1 92;s1 0 124;s2 0 94;d1;", "0123456", 236, 29);
    asksMany("s2 0 127;s1 1 93;s1 1 30;s2 0 75;s0 3 124;s2 0 125;s0 0 92;d1;", "0h123456", 412, 11);
    asksMany("s2 0 61;s1 0 127;s1 2 45;s2 0 127;s0 0 126;s2 0 117;s0 0 39;d1;", "0h123456", 1068, 59);
    asksMany("s2 0 90;s1 0 114;s1 0 118;s1 0 127;s0 0 121;s1 0 127;s1 0 127;d1;", "0h12h3h456h", 4680, 63);
    asksAnew();
    on("NONE: no ORDERS.");
    due("ask", past(5).ask(), NONE);
    on("HANG: whom the captain should hang, that it is most likely the first (of several the lowest number): he");
    due("one", past(7).hang(), 0);
    RingNames last = told(SEVEN);
    sign(last, 6, 3);
    due("the seventh", last.hang(), 6);
    due("seven alike: the lowest", signedBy(SEVEN + "d1;").hang(), 0);
    RingNames hang = signedBy("s1 0 0;s1 0 0;s1 1 2;d1;");
    until(hang, 30);
    due("1 in 2 of 3", hang.hang(), 1);
    RingNames low = told(SEVEN + "d1;");
    sign(low, 5, 0);
    sign(low, 4, 7);
    until(low, 30);
    due("of two alike the lower number, not seat", low.hang(), 4);
    on("NONE: nobody is there, no ORDERS.");
    due("a new object", new RingNames().hang(), NONE);
    due("told alone", told(SEVEN).hang(), NONE);
    RingNames gone = past(7);
    gone.scrape(0);
    due("scraped", gone.hang(), NONE);
    due("no orders", past(5).hang(), NONE);
    shifts();
  }

  /** Rings of many orders, in which some tell more than others; a figure signs, h is an hour. */
  private static void asksMany(String text, String acts, int orders, int ask) {
    RingNames x = told(text);
    for (char act : acts.toCharArray()) {
      if (act == 'h') x.hour();
      else if (x.signs(act - '0', act - '0') < 0) miss("he could not sign");
    }
    due("orders", x.orders(), orders);
    due("of " + orders + " orders", x.ask(), ask);
  }

  /** What an earlier ring answered is not remembered: each answer is that of an object that was asked but once. */
  private static void asksAnew() {
    String text = "s1 0 0;s1 0 0;s1 1 1;s1 1 2;s1 0 0;d1;";
    RingNames often = told(text);
    for (int s = 0; s < 5; s++) {
      sign(often, s, s);
      RingNames once = told(text);
      for (int i = 0; i <= s; i++) sign(once, i, i);
      due("behind " + (s + 1) + " names", often.ask(), once.ask());
    }
    RingNames few = told("s1 0 0;s1 0 0;s1 0 0;d1;");
    sign(few, 0, 0);
    sign(few, 1, 1);
    until(few, 9);
    due("0 1", few.ask(), 1);
    few.scrape(1);
    due("0", few.ask(), 0);
    few.undo();
    due("0 1 again", few.ask(), 1);
    few.scrape(1);
    sign(few, 2, 1);
    until(few, 20);
    due("0 2", few.ask(), 1);
    until(often, 40);
    due("0 1 4 can be first", often.first(), 1 | 2 | 16);
    for (int k = 0; k < 5; k++) {
      often.scrape(k);
      RingNames once = signedBy(text);
      until(once, 40);
      once.scrape(k);
      due("without " + k, often.ask(), once.ask());
      due("first without " + k, often.first(), k == 0 || k == 1 ? 0 : k == 4 ? 3 : 19);
      often.undo();
    }
  }

  private static void shifts() {
    on("SHIFT: of the ways to scrape one name of THE RING that by which most can have been FIRST .., of several the lowest SEAT: it; how many");
    RingNames one = told("s1 0 0;n8;");
    one.signs(0, 7);
    due("one name, at the last seat", one.shift(0), 7);
    due("nobody is left", one.shift(1), 0);
    RingNames seven = told(SEVEN + "d1;");
    for (int s = 0; s < 7; s++) sign(seven, s, 7 - s);
    due("alike: the lowest", seven.shift(0), 1);
    due("six", seven.shift(1), 6);
    RingNames ink = told("s1 0 0;s1 0 0;s1 0 0;d2;");
    ink.signs(0, 0);
    ink.hour();
    ink.signs(1, 4);
    ink.signs(2, 6);
    due("2 1 2: without 0 one is first, as without 2; without 1 none", ink.shift(0), 0);
    due("one", ink.shift(1), 1);
    RingNames least = told("s1 0 0;s1 0 0;s1 0 0;d2;");
    least.signs(0, 3);
    least.hour();
    least.signs(1, 0);
    least.signs(2, 6);
    due("not the lowest seat of all", least.shift(0), 3);
    RingNames most = told("s1 0 0;s1 1 1;s1 0 0;s1 0 0;d1;");
    for (int s = 0; s < 4; s++) sign(most, s, s);
    until(most, 30);
    due("without 1 three can be first", most.shift(0), 1);
    due("three", most.shift(1), 3);
    on("(by ORDERS of the others as they are seen, nobody else having SIGNED)");
    RingNames trusts = signedBy("s1 0 0;s1 1 1;d1;");
    due("without 0 there is no order, without 1 one", trusts.shift(0), 1);
    due("one", trusts.shift(1), 1);
    RingNames mends = signedBy("s1 0 0;s1 0 0;s1 0 0;s1 0 0;d3;");
    mends.scrape(1);
    mends.scrape(2);
    due("two dark ones", mends.orders(), 0);
    due("without the one there is an order", mends.shift(0), 0);
    due("one", mends.shift(1), 1);
    RingNames never = signedBy("s1 0 0;s1 0 0;s1 0 0;d3;");
    never.scrape(0);
    due("two light ones: none either way, the lowest seat", never.shift(0), 1);
    due("none", never.shift(1), 0);
    due("no orders, one name", past(5).shift(0), 1);
    due("no orders, one name", past(5).shift(1), 0);
    on("NONE: nobody is there.");
    due("a new object", new RingNames().shift(0), NONE);
    due("a new object", new RingNames().shift(1), NONE);
    RingNames gone = past(7);
    gone.scrape(0);
    due("scraped", gone.shift(0), NONE);
    due("scraped", gone.shift(1), NONE);
  }

  // ---- 3 counts

  private static void fraction(String what, RingNames x, int p, int k, int upper, int lower) {
    due(what + ", upper", x.odds(p, k, 0), upper);
    due(what + ", lower", x.odds(p, k, 1), lower);
  }

  private static void counts() {
    on("ODDS by p (0 .. 10), k (0 .. 7): each SAILOR who did not sign yet tells, by p of 10, each for himself: that k at most tell");
    RingNames seven = told(SEVEN);
    for (int k = 0; k <= 7; k++) {
      fraction("p 0, k " + k, seven, 0, k, 1, 1);
      fraction("p 10, k " + k, seven, 10, k, k == 7 ? 1 : 0, 1);
    }
    for (int p = 0; p <= 10; p++) fraction("k as many as there are, p " + p, seven, p, 7, 1, 1);
    fraction("p 5, none", seven, 5, 0, 1, 128);
    fraction("p 5, six", seven, 5, 6, 127, 128);
    fraction("p 1, none", seven, 1, 0, 4782969, 10000000);
    fraction("p 9, none", seven, 9, 0, 1, 10000000);
    fraction("p 9, six", seven, 9, 6, 5217031, 10000000);
    fraction("p 1, six", seven, 1, 6, 9999999, 10000000);
    RingNames none = new RingNames();
    for (int p = 0; p <= 10; p++) fraction("nobody, p " + p, none, p, 0, 1, 1);
    RingNames all = signedBy(SEVEN);
    for (int p = 0; p <= 10; p++) fraction("all signed, p " + p, all, p, 0, 1, 1);
    all.scrape(0);
    fraction("and scraped", all, 10, 0, 1, 1);
    RingNames two = told("s1 0 0;s1 0 0;s1 0 0;");
    fraction("one of three", two, 3, 1, 98, 125);
    two.signs(0, 0);
    fraction("one of two", two, 3, 1, 91, 100);
    fraction("two of two", two, 3, 2, 1, 1);
    on("BOLD: how many SAILORS have COURAGE c at most (0 .. 7).");
    RingNames each = told("s0 0 0;s0 1 0;s0 2 0;s0 3 0;s0 4 0;s0 5 0;s0 7 0;");
    int[] bold = {1, 2, 3, 4, 5, 6, 6, 7};
    for (int c = 0; c <= 7; c++) due("c " + c, each.bold(c), bold[c]);
    due("below", each.bold(-1), BAD);
    due("beyond", each.bold(8), BAD);
    for (int c = 0; c <= 7; c++) due("nobody, c " + c, new RingNames().bold(c), 0);
    due("all brave", told("s0 7 0;".repeat(7)).bold(6), 0);
    due("all brave", told("s0 7 0;".repeat(7)).bold(7), 7);
    on("CLIQUE: the most SAILORS who all TRUST one another; the least such bits.");
    due("nobody", new RingNames().clique(0), 0);
    due("nobody", new RingNames().clique(1), 0);
    due("one", told("s0 0 0;").clique(0), 1);
    due("one", told("s0 0 0;").clique(1), 1);
    due("nobody trusts: one", told(SEVEN).clique(0), 1);
    due("nobody trusts: the least", told(SEVEN).clique(1), 1);
    due("all seven", told("s0 0 127;".repeat(7)).clique(0), 7);
    due("all seven", told("s0 0 127;".repeat(7)).clique(1), 127);
    due("one way is none", told("s0 0 2;s0 0 0;").clique(0), 1);
    due("nor is the other", told("s0 0 0;s0 0 1;").clique(0), 1);
    due("two of the last", told("s0 0 127;s0 0 0;s0 0 8;s0 0 4;").clique(1), 12);
    due("of two pairs the least", told("s0 0 8;s0 0 4;s0 0 2;s0 0 1;").clique(1), 6);
    due("most ahead of least", told("s0 0 2;s0 0 1;s0 0 24;s0 0 20;s0 0 12;").clique(1), 28);
  }

  // ---- 4 kinds, images

  private static void kinds() {
    on("RATE of a SAILOR as if of a KIND");
    RingNames x = told("s0 7 126;s0 3 0;s0 0 127;s0 0 127;s0 0 127;s0 0 127;s0 0 127;d4;");
    due("SAILOR, the bravest", x.rate(0, 0), 7);
    due("SAILOR, courage 0", x.rate(0, 6), 0);
    due("MATE, all of six", x.rate(2, 0), 1);
    due("MATE, the least there is", x.rate(2, 6), -6);
    due("MATE, he trusts nobody", x.rate(2, 1), 3);
    due("BOSUN", x.rate(3, 0), 14);
    due("GUNNER, number 0", x.rate(4, 0), 1);
    due("GUNNER, number 6", x.rate(4, 6), 0);
    due("BOY, hour 0", x.rate(5, 0), 7);
    until(x, 99);
    due("BOY, hour 99", x.rate(5, 0), 106);
    due("BOY, hour 99", x.rate(5, 6), 99);
    on("COOK up, and his INK, 0 if he is not there");
    RingNames cook = told("s1 1 2;s1 0 0;d4;");
    due("he did not sign", cook.rate(1, 1), 0);
    cook.signs(1, 0);
    due("he is there", cook.rate(1, 1), 4);
    due("BOSUN twice", cook.rate(3, 1), 8);
    cook.hour();
    cook.signs(0, 1);
    due("courage and ink", cook.rate(1, 0), 4);
    cook.scrape(0);
    due("scraped", cook.rate(1, 1), 0);
    due("scraped, BOSUN", cook.rate(3, 1), 0);
    due("the other is there", cook.rate(1, 0), 4);
    on("(numbers in brackets are added to THE TRACE, 0 at first, as often as rate() asks that body: each once");
    RingNames t = told("s0 0 0;");
    due("at first", t.trace(), 0);
    long[] added = {1, 11, 101, 1011, 10101, 100001};
    long sum = 0;
    for (int i = 0; i < 3; i++)
      for (int kind = 0; kind <= 5; kind++) {
        t.rate(kind, 0);
        sum += added[kind];
        due("kind " + kind, t.trace(), sum);
      }
    on("`int rate(int kind, int s)`: RATE. NO: BAD.");
    for (int kind : new int[] {-1, 6, LOW, FAR, 32, 256}) due("kind " + kind, t.rate(kind, 0), NO);
    for (int s : new int[] {-1, 1, 7, LOW, FAR, 32, 256}) due("sailor " + s, t.rate(0, s), NO);
    for (int kind = 0; kind <= 5; kind++) due("kind " + kind + ", nobody", new RingNames().rate(kind, 0), NO);
    due("neither", t.rate(6, 1), NO);
    due("the trace stays", t.trace(), sum);
  }

  private static void images() {
    on("IMAGES 0, 1 keep NOW (THE HOUR, THE RING, who SIGNED)");
    for (int i = 0; i <= 1; i++) {
      RingNames x = told("s1 0 0;s1 0 0;s1 0 0;d2;");
      x.signs(2, 7);
      x.hour();
      x.signs(1, 0);
      x.scrape(7);
      due("the hour", x.keep(i), 3);
      x.hour();
      x.scrape(0);
      x.hour();
      x.signs(0, 7);
      due("the other was not kept", x.back(1 - i), STATE);
      due("the hour", x.back(i), 3);
      due("hour", x.now(0), 3);
      due("signed", x.now(1), 6);
      due("there", x.now(2), 2);
      due("seat 0", x.seat(0, 0), 1);
      due("its ink", x.seat(0, 1), 1);
      due("seat 7", x.seat(7, 0), NONE);
      due("its ink", x.seat(7, 1), 0);
    }
    on("nothing else (nothing can be UNDONE behind back())");
    RingNames y = told("s1 0 0;s1 0 0;");
    y.hour();
    y.signs(0, 0);
    y.rate(0, 0);
    y.keep(0);
    due("behind keep() it can", y.now(4), 1);
    say(y, "d1;");
    due("back", y.back(0), 1);
    due("nothing", y.now(4), 0);
    due("nothing", y.undo(), STATE);
    due("not the text", y.count(3), 3);
    due("not the trace", y.trace(), 1);
    due("not the image", y.back(0), 1);
    y.hour();
    due("what comes behind", y.undo(), 0);
    due("only that", y.undo(), STATE);
    due("the hour of the image", y.now(0), 1);
    notKept();
    anew();
  }

  private static void notKept() {
    on("`int back(int image)`: All of that becomes as an IMAGE has it: THE HOUR. BAD; STATE: none was kept.");
    RingNames x = told("s1 0 0;");
    due("none", x.back(0), STATE);
    due("none", x.back(1), STATE);
    due("kept in hour 0", x.keep(1), 0);
    due("the other", x.back(0), STATE);
    x.hour();
    due("itself", x.back(1), 0);
    due("below", x.back(-1), BAD);
    due("beyond", x.back(2), BAD);
    until(x, 99);
    due("kept in hour 99", x.keep(0), 99);
    due("kept over", x.keep(1), 99);
    due("back, though nothing is changed", x.back(1), 99);
    on("An IMAGE is kept: THE HOUR. (by itself)");
    RingNames y = told("s1 0 0;s1 0 0;");
    y.keep(0);
    y.signs(0, 3);
    y.keep(1);
    due("0 has no name", y.back(0), 0);
    due("seat", y.seat(3, 0), NONE);
    y.hour();
    y.hour();
    y.signs(1, 3);
    due("1 has the first name", y.back(1), 1);
    due("seat", y.seat(3, 0), 0);
    y.scrape(3);
    y.undo();
    due("undo() does not reach an image", y.back(0), 0);
    due("undo() does not reach an image", y.back(1), 1);
    due("seat", y.seat(3, 0), 0);
  }

  private static void anew() {
    on("(Read anew: as told (what is not told as at first)");
    RingNames x = busy();
    say(x, "s2 3 1;");
    due("one item", x.crew(), 1);
    due("sailors", x.count(0), 1);
    due("watch", x.sailor(0, 0), 2);
    due("courage", x.sailor(0, 1), 3);
    due("a second one", x.sailor(1, 0), BAD);
    due("dip as at first", x.count(1), 3);
    due("seats as at first", x.count(2), 8);
    due("hour as at first", x.now(0), 0);
    due("the text is empty then", x.count(3), 0);
    on("nobody SIGNED");
    RingNames n = busy();
    due("some did", n.now(1), 7);
    say(n, "s1 0 6;s0 1 1;s0 0 0;d2;n5;");
    n.crew();
    due("nobody", n.now(1), 0);
    due("nobody is there", n.now(2), 0);
    for (int k = 0; k < 5; k++) { due("seat", n.seat(k, 0), NONE); due("ink", n.seat(k, 1), 0); }
    due("the darkest again", n.signs(0, 4), 2);
    on("IMAGES are gone");
    RingNames i = busy();
    i.keep(1);
    i.crew();
    due("image 0", i.back(0), STATE);
    due("image 1", i.back(1), STATE);
    on("nothing can be UNDONE;");
    RingNames u = busy();
    due("four", u.now(4), 4);
    u.crew();
    due("nothing", u.now(4), 0);
    due("nothing", u.undo(), STATE);
    on("THE TRACE goes on, as behind undo(), back().)");
    RingNames t = busy();
    long was = t.trace();
    due("at first", was, 1011);
    t.undo();
    due("undo", t.trace(), was);
    t.back(0);
    due("back", t.trace(), was);
    t.rate(0, 0);
    due("on", t.trace(), was + 1);
    say(t, "s0 0 0;");
    t.crew();
    due("crew", t.trace(), was + 1);
    t.rate(5, 0);
    due("on", t.trace(), was + 1 + 100001);
    on("`int crew()`: .. -10 less FAULT: nothing changes (THE TEXT stays, too).");
    refused(3, "crew", -10 - 8, RingNames::crew);
    RingNames stays = past(3);
    due("the fault", stays.crew(), -18);
    due("the text stays", stays.count(3), 10);
    due("the same fault", stays.crew(), -18);
    stays.clear();
    say(stays, "d4;");
    due("cleared, it is read", stays.crew(), 1);
  }

  // ---- what is refused

  private static void order() {
    on("Refused .., the first of these: BAD (a number is not as told, or there is no such thing), STATE (as told), FULL.");
    due("type: BAD ahead of FULL", past(6).type(256), BAD);
    due("type: BAD ahead of FULL", past(6).type(-1), BAD);
    due("type: FULL", past(6).type(255), FULL);
    due("signs: BAD seat ahead of one who would not", past(2).signs(0, 5), BAD);
    due("signs: BAD sailor ahead of a seat not free", past(2).signs(5, 4), BAD);
    due("signs: BAD seat ahead of hour 99", past(4).signs(4, 5), BAD);
    due("signs: BAD sailor ahead of hour 99", past(4).signs(-1, 0), BAD);
    due("scrape: BAD ahead of nobody there", past(0).scrape(8), BAD);
    due("back: BAD ahead of none kept", past(0).back(2), BAD);
    due("shift: BAD ahead of NONE", past(0).shift(2), BAD);
    due("chance: BAD ahead of 0 by 1", past(5).chance(1, 2), BAD);
    due("sure: BAD ahead of none", past(5).sure(0), BAD);
  }

  private static void numbersBeyond() {
    on("`int type(int letter)`: A letter (0 .. 255) comes to THE TEXT: how many it has. BAD; FULL.");
    numbers("type", 0, 255, 0, BAD, (x, i) -> x.type(i));
    on("`int sailor(int s, int what)`: .. 0 WATCH .. 5 whether he WOULD sign. BAD.");
    numbers("sailor's s", 0, 6, 8, BAD, (x, i) -> x.sailor(i, 0));
    numbers("sailor's what", 0, 5, 2, BAD, (x, i) -> x.sailor(0, i));
    on("`int seat(int k, int what)`: Of a SEAT: 0 who is there (NONE), 1 INK (0). BAD.");
    numbers("seat's k", 0, 7, 0, BAD, (x, i) -> x.seat(i, 0));
    numbers("seat's what", 0, 1, 0, BAD, (x, i) -> x.seat(0, i));
    on("`int now(int what)`: 0 THE HOUR .. 4 how many may be UNDONE. BAD.");
    numbers("now", 0, 4, 0, BAD, (x, i) -> x.now(i));
    on("`int signs(int s, int k)`: SIGNED: INK. BAD");
    numbers("signs' s", 0, 6, 8, BAD, (x, i) -> x.signs(i, 0));
    numbers("signs' k", 0, 7, 8, BAD, (x, i) -> x.signs(0, i));
    on("`int scrape(int k)`: SCRAPED: who it was. BAD");
    numbers("scrape", 0, 7, 0, BAD, (x, i) -> x.scrape(i));
    on("`int sure(int s)`: SURE, as bits. BAD");
    numbers("sure", 0, 6, 8, BAD, (x, i) -> x.sure(i));
    on("`int chance(int s, int what)`: CHANCE: upper (what = 0), lower number (1), in least terms. BAD");
    numbers("chance's s", 0, 6, 8, BAD, (x, i) -> x.chance(i, 0));
    numbers("chance's what", 0, 1, 8, BAD, (x, i) -> x.chance(0, i));
    on("`int shift(int what)`: SHIFT: the SEAT (what = 0), how many (1); NONE. BAD.");
    numbers("shift", 0, 1, 8, BAD, (x, i) -> x.shift(i));
    on("`int odds(int p, int k, int what)`: ODDS: upper (what = 0), lower number (1), in least terms. BAD.");
    numbers("odds' p", 0, 10, 0, BAD, (x, i) -> x.odds(i, 0, 0));
    numbers("odds' k", 0, 7, 0, BAD, (x, i) -> x.odds(0, i, 0));
    numbers("odds' what", 0, 1, 0, BAD, (x, i) -> x.odds(0, 0, i));
    on("`int bold(int c)`: BOLD. BAD.");
    numbers("bold", 0, 7, 0, BAD, (x, i) -> x.bold(i));
    on("`int clique(int what)`: CLIQUE: how many (what = 0), the bits (1). BAD.");
    numbers("clique", 0, 1, 0, BAD, (x, i) -> x.clique(i));
    on("0 SAILOR; 1 COOK, 2 MATE, 5 BOY (each under SAILOR); 3 BOSUN (under COOK); 4 GUNNER (under MATE).");
    numbers("rate's kind", 0, 5, 8, NO, (x, i) -> x.rate(i, 0));
    numbers("rate's s", 0, 6, 8, NO, (x, i) -> x.rate(0, i));
    on("`int keep(int image)`: An IMAGE is kept: THE HOUR. BAD.");
    numbers("keep", 0, 1, 0, BAD, (x, i) -> x.keep(i));
    on("`int back(int image)`: .. BAD");
    numbers("back", 0, 1, 0, BAD, (x, i) -> x.back(i));
    on("`int count(int what)`: 0 SAILORS, 1 DIP, 2 SEATS, 3 letters of THE TEXT. BAD.");
    numbers("count", 0, 3, 0, BAD, (x, i) -> x.count(i));
  }

  /** No such sailor or seat where there are fewer than could be, and all that is refused by the state. */
  private static void nothingChanges() {
    on("Refused, and nothing changes: BAD, there is no such thing");
    for (int what = 0; what <= 5; what++) { int w = what; refused(2, "sailor(5, " + w + ")", BAD, x -> x.sailor(5, w)); }
    refused(0, "sailor(0, 0)", BAD, x -> x.sailor(0, 0));
    refused(2, "seat(5, 0)", BAD, x -> x.seat(5, 0));
    refused(2, "seat(5, 1)", BAD, x -> x.seat(5, 1));
    refused(2, "signs(5, 1)", BAD, x -> x.signs(5, 1));
    refused(2, "signs(4, 5)", BAD, x -> x.signs(4, 5));
    refused(0, "signs(0, 0)", BAD, x -> x.signs(0, 0));
    refused(2, "scrape(5)", BAD, x -> x.scrape(5));
    refused(2, "sure(5)", BAD, x -> x.sure(5));
    refused(2, "sure(3), who did not sign", BAD, x -> x.sure(3));
    refused(2, "sure(1), who was scraped", BAD, x -> x.sure(1));
    for (int what = 0; what <= 1; what++) {
      int w = what;
      refused(2, "chance(5, " + w + ")", BAD, x -> x.chance(5, w));
      refused(2, "chance(3, " + w + "), who did not sign", BAD, x -> x.chance(3, w));
      refused(2, "chance(1, " + w + "), who was scraped", BAD, x -> x.chance(1, w));
    }
    on("Refused, and nothing changes: NO");
    for (int kind = 0; kind <= 5; kind++) { int i = kind; refused(2, "rate(" + i + ", 5)", NO, x -> x.rate(i, 5)); }
    on("`int signs(int s, int k)`: .. STATE: he WOULD not, the SEAT is not free, it is HOUR 99.");
    refused(2, "signs(0, 1), who did", STATE, x -> x.signs(0, 1));
    refused(2, "signs(1, 1), who was scraped", STATE, x -> x.signs(1, 1));
    refused(2, "signs(3, 1), too few for him", STATE, x -> x.signs(3, 1));
    refused(2, "signs(4, 2), not free", STATE, x -> x.signs(4, 2));
    refused(7, "signs(1, 0), not free", STATE, x -> x.signs(1, 0));
    refused(1, "signs(0, 0), not told yet", BAD, x -> x.signs(0, 0));
    refused(4, "signs(4, 1), hour 99", STATE, x -> x.signs(4, 1));
    due("though he would", past(4).sailor(4, 5), 1);
    RingNames deck = past(7);
    deck.undo();
    deck.undo();
    deck.hour();
    due("signs, on deck", deck.signs(1, 0), STATE);
    due("nothing changed", deck.now(4), 1);
    due("no name", deck.now(1), 0);
    due("the hour", deck.now(0), 1);
    on("`int hour()`: An HOUR goes by: which it is. STATE: it is 99.");
    refused(4, "hour()", STATE, RingNames::hour);
    on("`int scrape(int k)`: SCRAPED: who it was. BAD; STATE: nobody is there.");
    refused(0, "scrape(0)", STATE, x -> x.scrape(0));
    refused(0, "scrape(7)", STATE, x -> x.scrape(7));
    refused(2, "scrape(0), scraped", STATE, x -> x.scrape(0));
    refused(2, "scrape(3), never signed", STATE, x -> x.scrape(3));
    refused(4, "scrape(0)", STATE, x -> x.scrape(0));
    on("`int undo()`: UNDONE: how many more may be. STATE: none.");
    refused(0, "undo()", STATE, RingNames::undo);
    refused(1, "undo()", STATE, RingNames::undo);
    refused(6, "undo()", STATE, RingNames::undo);
    on("`int back(int image)`: .. STATE: none was kept. (nothing changes)");
    refused(0, "back(0)", STATE, x -> x.back(0));
    refused(0, "back(1)", STATE, x -> x.back(1));
    refused(2, "back(1)", STATE, x -> x.back(1));
    refused(5, "back(0)", STATE, x -> x.back(0));
    on("`int type(int letter)`: .. FULL. (nothing changes)");
    refused(6, "type(59)", FULL, x -> x.type(59));
    refused(6, "type(0)", FULL, x -> x.type(0));
    refused(6, "type(255)", FULL, x -> x.type(255));
  }

  private static void lookingChangesNothing() {
    on("(Nothing is changed.)");
    List<Function<RingNames, Number>> looks = new ArrayList<>();
    looks.add(RingNames::will);
    looks.add(RingNames::begin);
    looks.add(RingNames::orders);
    looks.add(RingNames::first);
    looks.add(RingNames::ask);
    looks.add(RingNames::hang);
    looks.add(RingNames::trace);
    for (int what = 0; what <= 5; what++) {
      int w = what;
      looks.add(x -> x.sailor(0, w));
      looks.add(x -> x.seat(0, w));
      looks.add(x -> x.now(w));
      looks.add(x -> x.count(w));
      looks.add(x -> x.sure(w));
      looks.add(x -> x.chance(0, w));
      looks.add(x -> x.shift(w));
      looks.add(x -> x.odds(5, 2, w));
      looks.add(x -> x.bold(w));
      looks.add(x -> x.clique(w));
    }
    for (int p = 0; p < PASTS; p++)
      for (int i = 0; i < looks.size(); i++) changesNothing(p, "look " + i, looks.get(i));
    on("`int clear()`: THE TEXT is empty: how many letters it had.");
    due("none", past(0).clear(), 0);
    due("some", past(1).clear(), 10);
    due("200", past(6).clear(), 200);
    RingNames x = past(6);
    x.clear();
    due("empty", x.count(3), 0);
    due("a letter again", x.type(0), 1);
    changesNothing(0, "clear()", RingNames::clear);
    RingNames y = past(2);
    y.clear();
    due("the crew stays", y.count(0), 5);
    due("the image stays", y.back(0), 1);
    due("nothing is read", y.crew(), 0);
  }

  public static void main(String[] args) {
    anObject();
    sailors();
    text();
    hours();
    done();
    who();
    orders();
    counts();
    kinds();
    images();
    order();
    numbersBeyond();
    nothingChanges();
    lookingChangesNothing();
    on("end");
    System.out.println(wrong == 0 ? sentences - 1 + " sentences hold at their edges" : wrong + " answers are not as due");
    if (wrong != 0) System.exit(1);
  }
}
