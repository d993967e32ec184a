import java.math.BigInteger;
import java.util.ArrayDeque;
import java.util.ArrayList;
import java.util.Arrays;
import java.util.HashMap;
import java.util.List;
import java.util.Map;
import java.util.TreeSet;

/** Long walks of calls, each answer held against a second, slow program that was written from the document alone. */
public final class RingNamesModel {
  private static int wrong = 0;
  private static int calls = 0;
  private static final Map<String, Integer> seenAnswers = new HashMap<>();

  /** Everything that undo(), back() and keep() know of. */
  private static final class State {
    int hour = 0;
    TreeSet<Integer> signed = new TreeSet<>();
    Map<Integer, int[]> ring = new HashMap<>();

    State copy() {
      State s = new State();
      s.hour = hour;
      s.signed = new TreeSet<>(signed);
      for (Map.Entry<Integer, int[]> e : ring.entrySet()) s.ring.put(e.getKey(), e.getValue().clone());
      return s;
    }
  }

  private static final class Model {
    StringBuilder text = new StringBuilder();
    List<int[]> men = new ArrayList<>();
    int dip = 3;
    int seats = 8;
    State now = new State();
    ArrayDeque<State> past = new ArrayDeque<>();
    State[] images = new State[2];
    long trace = 0;

    int type(int letter) {
      if (letter < 0 || letter > 255) return -1;
      if (text.length() == 200) return -3;
      text.append((char) letter);
      return text.length();
    }

    int clear() { int n = text.length(); text = new StringBuilder(); return n; }

    // ---- the text, cut into tokens first and read by a table of what may follow

    private List<String> tokens;
    private List<Integer> starts;

    private void cut() {
      tokens = new ArrayList<>();
      starts = new ArrayList<>();
      String t = text.toString();
      int i = 0;
      while (i < t.length()) {
        char c = t.charAt(i);
        if (c == ' ') { i++; continue; }
        int j = i + 1;
        if ("0123456789".indexOf(c) >= 0) while (j < t.length() && "0123456789".indexOf(t.charAt(j)) >= 0) j++;
        tokens.add(t.substring(i, j));
        starts.add(i);
        i = j;
      }
    }

    private boolean isNumber(String t, int from, int to) {
      if (!t.matches("0|[1-9][0-9]*")) return false;
      BigInteger b = new BigInteger(t);
      return b.compareTo(BigInteger.valueOf(from)) >= 0 && b.compareTo(BigInteger.valueOf(to)) <= 0;
    }

    int crew() {
      cut();
      List<int[]> newMen = new ArrayList<>();
      int newDip = 3, newSeats = 8, items = 0;
      boolean dipTold = false, seatsTold = false;
      String doing = "";
      int step = 0;
      int[] man = null;
      for (int i = 0; i < tokens.size(); i++) {
        String t = tokens.get(i);
        boolean fits = false;
        if (doing.equals("")) {
          fits = t.equals("s") && newMen.size() < 7 || t.equals("d") && !dipTold || t.equals("n") && !seatsTold;
          if (fits) { doing = t; step = 0; man = new int[3]; }
        } else if (doing.equals("s") && step < 3) {
          fits = isNumber(t, 0, new int[] {2, 7, 127}[step]);
          if (fits) man[step++] = Integer.parseInt(t);
        } else if (doing.equals("d") && step < 1) {
          fits = isNumber(t, 1, 4);
          if (fits) { newDip = Integer.parseInt(t); dipTold = true; step++; }
        } else if (doing.equals("n") && step < 1) {
          fits = isNumber(t, 1, 8);
          if (fits) { newSeats = Integer.parseInt(t); seatsTold = true; step++; }
        } else {
          fits = t.equals(";");
          if (fits) { if (doing.equals("s")) newMen.add(man); doing = ""; items++; }
        }
        if (!fits) return -10 - starts.get(i);
      }
      if (!doing.equals("")) return -10 - text.length();
      men = newMen;
      dip = newDip;
      seats = newSeats;
      text = new StringBuilder();
      now = new State();
      past.clear();
      images = new State[2];
      return items;
    }

    // ---- who

    boolean man(int s) { return s >= 0 && s < men.size(); }
    boolean place(int k) { return k >= 0 && k < seats; }
    boolean trusts(int a, int b) { return a != b && man(b) && (men.get(a)[2] & (1 << b)) != 0; }

    int trustBits(int s) { int m = 0; for (int b = 0; b < men.size(); b++) if (trusts(s, b)) m += 1 << b; return m; }

    boolean brave(int s, java.util.Collection<Integer> ahead) {
      int c = men.get(s)[1];
      if (ahead.size() < c) return false;
      if (c == 0) return true;
      for (int b : ahead) if (trusts(s, b)) return true;
      return false;
    }

    boolean would(int s) { return !now.signed.contains(s) && now.hour % 3 != men.get(s)[0] && brave(s, now.signed); }

    int seatOf(int s) { for (Map.Entry<Integer, int[]> e : now.ring.entrySet()) if (e.getValue()[0] == s) return e.getKey(); return -9; }

    int bits(java.util.Collection<Integer> c) { int m = 0; for (int s : c) m |= 1 << s; return m; }

    int thereBits() { int m = 0; for (int[] v : now.ring.values()) m |= 1 << v[0]; return m; }

    int sailor(int s, int what) {
      if (!man(s) || what < 0 || what > 5) return -1;
      switch (what) {
        case 0: return men.get(s)[0];
        case 1: return men.get(s)[1];
        case 2: return trustBits(s);
        case 3: return now.signed.contains(s) ? 1 : 0;
        case 4: return seatOf(s);
        default: return would(s) ? 1 : 0;
      }
    }

    int seat(int k, int what) {
      if (!place(k) || what < 0 || what > 1) return -1;
      int[] v = now.ring.get(k);
      if (v == null) return what == 0 ? -9 : 0;
      return v[what];
    }

    int now(int what) {
      if (what == 0) return now.hour;
      if (what == 1) return bits(now.signed);
      if (what == 2) return thereBits();
      if (what == 3) { int m = 0; for (int s = 0; s < men.size(); s++) if (would(s)) m |= 1 << s; return m; }
      if (what == 4) return past.size();
      return -1;
    }

    private void remember() { past.addLast(now.copy()); if (past.size() > 10) past.removeFirst(); }

    int signs(int s, int k) {
      if (!man(s) || !place(k)) return -1;
      if (!would(s) || now.ring.containsKey(k) || now.hour == 99) return -2;
      remember();
      int ink = dip - now.signed.size() % dip;
      now.ring.put(k, new int[] {s, ink});
      now.signed.add(s);
      now.hour++;
      return ink;
    }

    int hour() { if (now.hour == 99) return -2; remember(); return ++now.hour; }

    int scrape(int k) {
      if (!place(k)) return -1;
      if (!now.ring.containsKey(k)) return -2;
      remember();
      return now.ring.remove(k)[0];
    }

    int undo() { if (past.isEmpty()) return -2; now = past.removeLast(); return past.size(); }

    // ---- who will

    TreeSet<Integer> inTheEnd(java.util.Collection<Integer> start) {
      TreeSet<Integer> in = new TreeSet<>(start);
      boolean more = true;
      while (more) {
        TreeSet<Integer> next = new TreeSet<>(in);
        for (int s = 0; s < men.size(); s++) if (brave(s, in)) next.add(s);
        more = next.size() > in.size();
        in = next;
      }
      return in;
    }

    int will() { return bits(inTheEnd(now.signed)); }

    int begin() {
      int best = -1;
      for (int m = 0; m < 1 << men.size(); m++) {
        TreeSet<Integer> start = new TreeSet<>(now.signed);
        boolean new1 = true;
        for (int s = 0; s < men.size(); s++) if ((m >> s & 1) != 0) new1 &= start.add(s);
        if (!new1 || inTheEnd(start).size() < men.size()) continue;
        if (best < 0 || Integer.bitCount(m) < Integer.bitCount(best)) best = m;
      }
      return best;
    }

    // ---- orders: every permutation, and for it every hour that each can have signed in

    List<List<Integer>> allOrders(int without) {
      Map<Integer, Integer> inkOf = new HashMap<>();
      for (Map.Entry<Integer, int[]> e : now.ring.entrySet())
        if (e.getKey() != without) inkOf.put(e.getValue()[0], e.getValue()[1]);
      List<List<Integer>> out = new ArrayList<>();
      permute(new ArrayList<>(), new ArrayList<>(new TreeSet<>(inkOf.keySet())), inkOf, out);
      return out;
    }

    private void permute(List<Integer> order, List<Integer> rest, Map<Integer, Integer> inkOf, List<List<Integer>> out) {
      if (rest.isEmpty()) { if (can(order, inkOf)) out.add(new ArrayList<>(order)); return; }
      for (int i = 0; i < rest.size(); i++) {
        int s = rest.remove(i);
        order.add(s);
        permute(order, rest, inkOf, out);
        order.remove(order.size() - 1);
        rest.add(i, s);
      }
    }

    private boolean can(List<Integer> order, Map<Integer, Integer> inkOf) {
      for (int i = 0; i < order.size(); i++) {
        int s = order.get(i);
        if (inkOf.get(s) != dip - i % dip) return false;
        if (!brave(s, order.subList(0, i))) return false;
      }
      boolean[] last = new boolean[101];
      last[0] = true;
      // last[h + 1]: the latest name can have been signed in hour h; last[0]: none yet
      for (int s : order) {
        boolean[] next = new boolean[101];
        for (int h = 0; h < now.hour; h++) {
          if (h % 3 == men.get(s)[0]) continue;
          for (int before = 0; before <= h; before++) if (last[before]) next[h + 1] = true;
        }
        last = next;
      }
      for (boolean b : last) if (b) return true;
      return false;
    }

    int firstBits(List<List<Integer>> orders) { int m = 0; for (List<Integer> o : orders) if (!o.isEmpty()) m |= 1 << o.get(0); return m; }

    int times(List<List<Integer>> orders, int s) { int n = 0; for (List<Integer> o : orders) if (!o.isEmpty() && o.get(0) == s) n++; return n; }

    boolean there(int s) { return s >= 0 && s < 7 && (thereBits() >> s & 1) != 0; }

    int sure(int s) {
      if (!there(s)) return -1;
      int m = 0;
      List<List<Integer>> orders = allOrders(-1);
      for (int a = 0; a < 7; a++) {
        if (!there(a)) continue;
        boolean always = !orders.isEmpty();
        for (List<Integer> o : orders) always &= o.indexOf(a) < o.indexOf(s);
        if (always) m |= 1 << a;
      }
      return m;
    }

    int fraction(BigInteger up, BigInteger low, int what) {
      BigInteger g = up.gcd(low);
      return (what == 0 ? up : low).divide(g).intValueExact();
    }

    int chance(int s, int what) {
      if (!there(s) || what < 0 || what > 1) return -1;
      List<List<Integer>> orders = allOrders(-1);
      if (orders.isEmpty()) return what;
      return fraction(BigInteger.valueOf(times(orders, s)), BigInteger.valueOf(orders.size()), what);
    }

    int ask() {
      List<List<Integer>> orders = allOrders(-1);
      if (orders.isEmpty()) return -9;
      int best = -1;
      for (int m = 0; m < 128; m++) {
        if ((m & ~thereBits()) != 0 || best >= 0 && Integer.bitCount(m) >= Integer.bitCount(best)) continue;
        Map<String, Integer> told = new HashMap<>();
        boolean known = true;
        for (List<Integer> o : orders) {
          StringBuilder key = new StringBuilder();
          for (int s = 0; s < 7; s++) if ((m >> s & 1) != 0) key.append(o.indexOf(s)).append(',');
          Integer first = o.isEmpty() ? -1 : o.get(0);
          Integer other = told.put(key.toString(), first);
          if (other != null && !other.equals(first)) { known = false; break; }
        }
        if (known) best = m;
      }
      return best;
    }

    int hang() {
      List<List<Integer>> orders = allOrders(-1);
      int best = -9, most = 0;
      for (int s = 0; s < 7; s++) if (times(orders, s) > most) { most = times(orders, s); best = s; }
      return best;
    }

    int shift(int what) {
      if (what < 0 || what > 1) return -1;
      int best = -9, most = -9;
      for (int k = 0; k < seats; k++) {
        if (!now.ring.containsKey(k)) continue;
        int f = Integer.bitCount(firstBits(allOrders(k)));
        if (best == -9 || f > most) { best = k; most = f; }
      }
      return what == 0 ? best : most;
    }

    // ---- counts

    int odds(int p, int k, int what) {
      if (p < 0 || p > 10 || k < 0 || k > 7 || what < 0 || what > 1) return -1;
      int n = men.size() - now.signed.size();
      BigInteger up = BigInteger.ZERO;
      for (int i = 0; i <= n && i <= k; i++) {
        BigInteger choose = BigInteger.ONE;
        for (int j = 0; j < i; j++) choose = choose.multiply(BigInteger.valueOf(n - j)).divide(BigInteger.valueOf(j + 1));
        up = up.add(choose.multiply(BigInteger.valueOf(p).pow(i)).multiply(BigInteger.valueOf(10 - p).pow(n - i)));
      }
      return fraction(up, BigInteger.TEN.pow(n), what);
    }

    int bold(int c) { if (c < 0 || c > 7) return -1; int n = 0; for (int[] m : men) if (m[1] <= c) n++; return n; }

    int clique(int what) {
      if (what < 0 || what > 1) return -1;
      int best = 0;
      for (int m = (1 << men.size()) - 1; m >= 0; m--) {
        boolean all = true;
        for (int a = 0; a < 7; a++) for (int b = 0; b < 7; b++)
          if (a != b && (m >> a & 1) != 0 && (m >> b & 1) != 0) all &= trusts(a, b);
        if (all && Integer.bitCount(m) >= Integer.bitCount(best)) best = m;
      }
      return what == 0 ? Integer.bitCount(best) : best;
    }

    // ---- kinds, images

    int rate(int kind, int s) {
      if (kind < 0 || kind > 5 || !man(s)) return -1000000;
      int[] added = {1, 11, 101, 1011, 10101, 100001};
      trace += added[kind];
      int c = men.get(s)[1];
      int ink = seatOf(s) == -9 ? 0 : now.ring.get(seatOf(s))[1];
      int trusted = Integer.bitCount(trustBits(s));
      return new int[] {c, c + ink, c - trusted, 2 * (c + ink), c - trusted + s, c + now.hour}[kind];
    }

    int keep(int image) { if (image < 0 || image > 1) return -1; images[image] = now.copy(); return now.hour; }

    int back(int image) {
      if (image < 0 || image > 1) return -1;
      if (images[image] == null) return -2;
      now = images[image].copy();
      past.clear();
      return now.hour;
    }

    int count(int what) {
      if (what == 0) return men.size();
      if (what == 1) return dip;
      if (what == 2) return seats;
      if (what == 3) return text.length();
      return -1;
    }
  }

  // ---- the walks

  /** A fixed row of numbers, the same in each run of this test. */
  private static long dice = 20261119L;

  private static int roll(int below) {
    dice = dice * 6364136223846793005L + 1442695040888963407L;
    return (int) ((dice >>> 33) % below);
  }

  /** Mostly a number that may be, now and then one just beyond. */
  private static int pick(int most) { return roll(12) == 0 ? (roll(2) == 0 ? -1 : most + 1) : roll(most + 1); }

  private static int any() {
    int[] strange = {Integer.MIN_VALUE, Integer.MAX_VALUE, -1, 32, 33, 64, 1 << 30, -32, 100, 255, 256};
    return strange[roll(strange.length)];
  }

  /** What an object answers behind its 512th call is free: no walk goes on so long. */
  private static final int MOST_CALLS = 512;
  private static final int LOOK = 68, THINK = 40, ACT = 6;
  private static int used = 0;
  private static String trail = "";

  private static void fresh() { used = 0; trail = ""; }

  private static boolean room(int more) { return used + more <= MOST_CALLS; }

  private static void due(String call, long got, long want) {
    calls++;
    used++;
    if (used == MOST_CALLS + 1) { wrong++; System.out.println("the walk is too long for one object:" + trail); }
    trail += " " + call + "=" + got;
    String kind = call.substring(0, call.indexOf('(')) + (want == -1 ? " bad" : want == -2 ? " state" : want == -3 ? " full" : want == -9 ? " none" : want < -9 ? " fault" : "");
    seenAnswers.merge(kind, 1, Integer::sum);
    if (got != want) {
      wrong++;
      if (wrong < 20) System.out.println(call + " answered " + got + ", due is " + want + ", behind" + (trail.length() > 1500 ? " .." + trail.substring(trail.length() - 1500) : trail));
    }
  }

  private static void type(RingNames x, Model m, String text) {
    for (char c : text.toCharArray()) due("type(" + (int) c + ")", x.type(c), m.type(c));
  }

  private static String blanks() { return roll(4) == 0 ? "   ".substring(roll(3)) : ""; }

  private static String crewText(int style) {
    List<String> items = new ArrayList<>();
    int n = style == 2 ? 7 : style == 3 ? 5 + roll(3) : roll(5) == 0 ? roll(8) : 4 + roll(4);
    for (int i = 0; i < n; i++) {
      int courage = style == 2 ? 0 : style == 1 ? roll(8) : style == 3 ? Math.max(0, roll(5) - 2) : Math.min(roll(4), i);
      int trust = style == 1 ? roll(128) : roll(128) | roll(128);
      items.add(blanks() + "s" + blanks() + roll(3) + " " + blanks() + courage + " " + trust + blanks() + ";" + blanks());
    }
    if (style == 2 || style == 3 && roll(2) == 0) items.add(roll(items.size() + 1), "d1;");
    else if (style == 3 || roll(3) > 0) items.add(roll(items.size() + 1), "d" + blanks() + (1 + roll(4)) + ";");
    if (roll(3) == 0) items.add(roll(items.size() + 1), "n" + blanks() + (roll(2) == 0 ? 8 : 1 + roll(8)) + blanks() + ";");
    return String.join("", items);
  }

  private static String spoilt(String text) {
    String signs = "sdn;0123456789 xS\t";
    StringBuilder b = new StringBuilder(text);
    for (int i = 1 + roll(2); i > 0; i--) {
      int at = roll(b.length() + 1);
      int how = roll(4);
      char c = roll(20) == 0 ? (char) roll(256) : signs.charAt(roll(signs.length()));
      if (how == 0 || at == b.length()) b.insert(at, c);
      else if (how == 1) b.setCharAt(at, c);
      else if (how == 2) b.deleteCharAt(at);
      else b.setLength(at);
    }
    return b.toString();
  }

  private static void lookAtRing(RingNames x, Model m) {
    for (int k = 0; k < 8; k++) for (int w = 0; w < 2; w++) due("seat(" + k + ", " + w + ")", x.seat(k, w), m.seat(k, w));
    for (int w = 0; w < 5; w++) due("now(" + w + ")", x.now(w), m.now(w));
  }

  private static void look(RingNames x, Model m) {
    for (int s = 0; s < 7; s++) for (int w = 0; w < 6; w++) due("sailor(" + s + ", " + w + ")", x.sailor(s, w), m.sailor(s, w));
    lookAtRing(x, m);
    for (int w = 0; w < 4; w++) due("count(" + w + ")", x.count(w), m.count(w));
    due("trace()", x.trace(), m.trace);
  }

  private static void act(RingNames x, Model m, int style) {
    int r = roll(style >= 2 && roll(6) > 0 ? 14 : 20);
    if (r < 11) {
      // one who would, if there is one, so that rings fill
      int s = pick(6), would = m.now(3), k = pick(m.seats - 1);
      if (would != 0 && roll(6) > 0) do s = roll(7); while ((would >> s & 1) == 0);
      due("signs(" + s + ", " + k + ")", x.signs(s, k), m.signs(s, k));
    } else if (r < 14) {
      due("hour()", x.hour(), m.hour());
    } else if (r < 16) {
      int k = pick(m.seats - 1);
      if (roll(3) == 0) due("scrape(" + k + ")", x.scrape(k), m.scrape(k));
    } else if (r < 17) {
      for (int i = roll(3); i > 0; i--) due("undo()", x.undo(), m.undo());
    } else if (r < 18) {
      int i = pick(1);
      due("keep(" + i + ")", x.keep(i), m.keep(i));
    } else if (r < 19) {
      int i = pick(1);
      if (roll(3) == 0) due("back(" + i + ")", x.back(i), m.back(i));
    } else {
      int a = any(), b = any();
      due("signs(" + a + ", 0)", x.signs(a, 0), m.signs(a, 0));
      due("signs(0, " + b + ")", x.signs(0, b), m.signs(0, b));
      due("scrape(" + a + ")", x.scrape(a), m.scrape(a));
      due("keep(" + a + ")", x.keep(a), m.keep(a));
      due("back(" + a + ")", x.back(a), m.back(a));
      due("type(" + a + ")", x.type(a), m.type(a));
    }
  }

  private static void think(RingNames x, Model m) {
    List<List<Integer>> orders = m.allOrders(-1);
    due("will()", x.will(), m.will());
    due("begin()", x.begin(), m.begin());
    due("orders()", x.orders(), orders.size());
    due("first()", x.first(), m.firstBits(orders));
    due("ask()", x.ask(), m.ask());
    due("hang()", x.hang(), m.hang());
    for (int w = -1; w < 3; w++) due("shift(" + w + ")", x.shift(w), m.shift(w));
    int s = pick(6);
    due("sure(" + s + ")", x.sure(s), m.sure(s));
    for (int w = -1; w < 3; w++) due("chance(" + s + ", " + w + ")", x.chance(s, w), m.chance(s, w));
    int p = pick(10), k = pick(7);
    for (int w = -1; w < 3; w++) due("odds(" + p + ", " + k + ", " + w + ")", x.odds(p, k, w), m.odds(p, k, w));
    due("bold(" + k + ")", x.bold(k), m.bold(k));
    for (int w = -1; w < 3; w++) due("clique(" + w + ")", x.clique(w), m.clique(w));
    int kind = pick(5);
    due("rate(" + kind + ", " + s + ")", x.rate(kind, s), m.rate(kind, s));
    due("trace()", x.trace(), m.trace);
    int a = any(), b = roll(2) == 0 ? 0 : any();
    due("sailor(" + a + ", " + b + ")", x.sailor(a, b), m.sailor(a, b));
    due("sailor(0, " + a + ")", x.sailor(0, a), m.sailor(0, a));
    due("seat(" + a + ", " + b + ")", x.seat(a, b), m.seat(a, b));
    due("seat(0, " + a + ")", x.seat(0, a), m.seat(0, a));
    due("now(" + a + ")", x.now(a), m.now(a));
    due("sure(" + a + ")", x.sure(a), m.sure(a));
    due("chance(" + a + ", " + b + ")", x.chance(a, b), m.chance(a, b));
    due("odds(" + a + ", 0, 0)", x.odds(a, 0, 0), m.odds(a, 0, 0));
    due("odds(0, " + a + ", 0)", x.odds(0, a, 0), m.odds(0, a, 0));
    due("bold(" + a + ")", x.bold(a), m.bold(a));
    due("rate(" + a + ", " + b + ")", x.rate(a, b), m.rate(a, b));
    due("rate(0, " + a + ")", x.rate(0, a), m.rate(0, a));
    due("count(" + a + ")", x.count(a), m.count(a));
  }

  private static void walk(int number) {
    RingNames x = new RingNames();
    Model m = new Model();
    fresh();
    int style = number % 40 == 0 ? 2 : number % 4 == 0 ? 1 : number % 2 == 0 ? 0 : 3;
    String text = crewText(style);
    if (text.length() > 200) text = text.replace(" ;", ";");
    type(x, m, text);
    due("crew()", x.crew(), m.crew());
    if (m.text.length() > 0) due("clear()", x.clear(), m.clear());
    int steps = 4 + roll(30);
    int thoughts = style == 2 ? 1 : 4;
    int last = LOOK + THINK;
    for (int i = 0; i < steps && room(ACT + last); i++) {
      act(x, m, style);
      if (roll(steps) < thoughts && room(THINK + last)) think(x, m);
      if (roll(12) == 0 && room(LOOK + last)) look(x, m);
      if (roll(25) == 0) readAnew(x, m, spoilt(crewText(roll(2))), last);
    }
    look(x, m);
    think(x, m);
  }

  private static void readAnew(RingNames x, Model m, String text, int last) {
    if (!room(text.length() + 2 + last)) return;
    type(x, m, text);
    due("crew()", x.crew(), m.crew());
    if (roll(2) == 0) due("clear()", x.clear(), m.clear());
  }

  private static void texts(int rounds) {
    RingNames x = null;
    Model m = null;
    for (int i = 0; i < rounds; i++) {
      String text = spoilt(roll(3) == 0 ? "" : crewText(roll(2)));
      if (x == null || !room(text.length() + 2 + LOOK)) { x = new RingNames(); m = new Model(); fresh(); }
      type(x, m, text);
      due("crew()", x.crew(), m.crew());
      due("clear()", x.clear(), m.clear());
      if (i % 10 == 0) look(x, m);
    }
  }

  private static void late() {
    RingNames x = new RingNames();
    Model m = new Model();
    fresh();
    type(x, m, "s0 0 0;s0 0 0;s1 0 0;s1 1 1;");
    due("crew()", x.crew(), m.crew());
    for (int i = 0; i < 105; i++) {
      if (i % 9 == 1) due("signs(3, 1)", x.signs(i / 9 % 4, i % 8), m.signs(i / 9 % 4, i % 8));
      due("hour()", x.hour(), m.hour());
    }
    for (int s = 0; s < 4; s++) due("signs(" + s + ", 6)", x.signs(s, 6), m.signs(s, 6));
    think(x, m);
    for (int i = 0; i < 12; i++) { lookAtRing(x, m); due("undo()", x.undo(), m.undo()); }
  }

  public static void main(String[] args) {
    int walks = args.length > 0 ? Integer.parseInt(args[0]) : 2400;
    for (int i = 0; i < walks; i++) walk(i);
    texts(3000);
    late();
    String[] wanted = {"signs", "signs bad", "signs state", "hour", "hour state", "scrape", "scrape bad", "scrape state",
        "undo", "undo state", "back", "back bad", "back state", "keep", "keep bad", "type", "type bad", "type full", "crew",
        "crew fault", "clear", "ask", "ask none", "hang", "hang none", "shift", "shift none", "shift bad", "sure", "sure bad",
        "chance", "chance bad", "odds", "odds bad", "bold", "bold bad", "clique", "clique bad", "rate", "rate fault", "count bad"};
    for (String w : wanted) if (!seenAnswers.containsKey(w)) { wrong++; System.out.println("the walks never met: " + w); }
    System.out.println(wrong == 0 ? calls + " calls are as the model has them" : wrong + " of " + calls + " calls are not as the model has them");
    if (wrong != 0) System.exit(1);
  }
}
