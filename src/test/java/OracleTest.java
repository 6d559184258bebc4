import java.math.BigInteger;
import java.util.ArrayList;
import java.util.Arrays;
import java.util.List;
import java.util.Random;

// Random runs of calls, each answer held against a second, plainer telling of the document.
public final class OracleTest {
  private static final int BAD = -1, STATE = -2, FULL = -3, NONE = -4;
  private static final int RUNS = 600, CALLS = 330;

  /** What a text tells and the calls change. */
  private static final class World implements Cloneable {
    List<int[]> stuffs = new ArrayList<>(); // kind, a, b, feeds, price
    int[] pantry = new int[8];
    int[] half = new int[8];
    List<Integer> seen = new ArrayList<>();
    int fed, doings;

    World copy() {
      World w = new World();
      for (int[] s : stuffs) w.stuffs.add(s.clone());
      w.pantry = pantry.clone();
      w.half = half.clone();
      w.seen = new ArrayList<>(seen);
      w.fed = fed;
      w.doings = doings;
      return w;
    }

    boolean is(int m) { return m >= 0 && m < stuffs.size(); }
    boolean raw(int m) { return stuffs.get(m)[0] == 4; }

    /** The world behind a DOING, or null. */
    World behind(int doing) {
      World w = copy();
      int m = doing % 10;
      int[] s = stuffs.get(m);
      if (raw(m)) return null;
      if (doing < 10) {
        w.pantry[s[1]]--;
        w.pantry[s[2]]--;
        w.pantry[m]++;
      } else {
        if (s[0] == 2) return null;
        w.pantry[m]--;
        w.pantry[s[1]]++;
        if (s[0] == 0 || s[0] == 3 && half[m] == 1) w.pantry[s[2]]++;
        if (s[0] == 3) w.half[m] ^= 1;
      }
      for (int n : w.pantry) if (n < 0 || n > 40) return null;
      w.doings++;
      return w;
    }

    int worth() {
      int sum = 0;
      for (int m = 0; m < stuffs.size(); m++) sum += pantry[m] * stuffs.get(m)[3];
      return sum;
    }

    int things() { return Arrays.stream(pantry).sum(); }

    List<Integer> contents(int m) {
      List<Integer> all = new ArrayList<>();
      if (raw(m)) all.add(m);
      else {
        all.addAll(contents(stuffs.get(m)[1]));
        all.addAll(contents(stuffs.get(m)[2]));
      }
      return all;
    }

    /** The row at first, and behind each TURN. */
    List<List<Integer>> rows(int m) {
      List<List<Integer>> all = new ArrayList<>();
      List<Integer> row = new ArrayList<>(List.of(m));
      int[] halves = new int[8];
      while (true) {
        all.add(new ArrayList<>(row));
        int at = 0;
        while (at < row.size() && (raw(row.get(at)) || stuffs.get(row.get(at))[0] == 2)) at++;
        if (at == row.size()) return all;
        int thing = row.remove(at);
        int[] s = stuffs.get(thing);
        row.add(at, s[1]);
        if (s[0] == 0 || s[0] == 3 && halves[thing] == 1) row.add(at + 1, s[2]);
        if (s[0] == 3) halves[thing] ^= 1;
      }
    }

    List<Integer> left(int m) {
      List<List<Integer>> all = rows(m);
      return all.get(all.size() - 1);
    }

    /** Cooks one by one, what is missing first. */
    int most(int m) {
      int[] there = pantry.clone();
      int n = 0;
      while (n < 40) {
        if (!take(there, stuffs.get(m)[1]) || !take(there, stuffs.get(m)[2])) break;
        n++;
      }
      return n;
    }

    boolean take(int[] there, int x) {
      if (there[x] > 0) {
        there[x]--;
        return true;
      }
      if (raw(x)) return false;
      return take(there, stuffs.get(x)[1]) && take(there, stuffs.get(x)[2]);
    }

    BigInteger[] mean(int v, int m, int x) {
      BigInteger zero = BigInteger.ZERO, one = BigInteger.ONE;
      int[] s = stuffs.get(m);
      if (s[0] == 4) return new BigInteger[] {m == x ? one : zero, one};
      if (s[0] == 2) return new BigInteger[] {zero, one};
      BigInteger[] a = mean(v, s[1], x);
      if (s[0] == 1) return a;
      BigInteger[] b = mean(v, s[2], x);
      BigInteger by = BigInteger.valueOf(s[0] == 0 ? 10 : v);
      BigInteger up = a[0].multiply(b[1]).multiply(BigInteger.TEN).add(b[0].multiply(by).multiply(a[1]));
      BigInteger low = a[1].multiply(b[1]).multiply(BigInteger.TEN);
      BigInteger g = up.gcd(low);
      return new BigInteger[] {up.divide(g), low.divide(g)};
    }
  }

  /** All rows of DOINGS of a length, by their NUMBERS. */
  private static void allRows(World w, int length, List<Integer> row, List<List<Integer>> rows, List<World> ends) {
    if (row.size() == length) {
      rows.add(new ArrayList<>(row));
      ends.add(w);
      return;
    }
    for (int d = 0; d < 18; d++) {
      if (!w.is(d % 10)) continue;
      World next = w.behind(d);
      if (next == null) continue;
      row.add(d);
      allRows(next, length, row, rows, ends);
      row.remove(row.size() - 1);
    }
  }

  private static final class Oracle {
    World w = new World();
    World[] images = new World[2];
    Object[] sheets = new Object[4];
    String tape = "";
    int fault, torn;

    // ---- the text, by a row of TOKENS made as needed
    int at, start;
    String token;
    void token() {
      while (at < tape.length() && tape.charAt(at) == ' ') at++;
      start = at;
      if (at == tape.length()) { token = ""; return; }
      char c = tape.charAt(at);
      String sort = c >= 'a' && c <= 'z' ? "[a-z]" : c >= '0' && c <= '9' ? "[0-9]" : null;
      at++;
      if (sort != null) while (at < tape.length() && tape.substring(at, at + 1).matches(sort)) at++;
      token = tape.substring(start, at);
      if (!token.matches("[a-z]+|[0-9][0-9]?|;")) fail(1, start);
    }
    static final class Failed extends RuntimeException {
      final int kind, place;
      Failed(int kind, int place) { super(null, null, false, false); this.kind = kind; this.place = place; }
    }
    void fail(int kind, int place) { throw new Failed(kind, place); }
    int number(int top) {
      token();
      if (!token.matches("[0-9]+")) fail(2, start);
      int n = Integer.parseInt(token);
      if (n > top) fail(3, start);
      return n;
    }
    int text() {
      World next = new World();
      List<Integer> told = new ArrayList<>();
      int lines = 0;
      at = 0;
      try {
        for (token(); !token.isEmpty(); token()) {
          int kind = List.of("mix", "boil", "burn", "salt", "raw", "have").indexOf(token);
          if (kind < 0) fail(2, start);
          if (kind < 5 && next.stuffs.size() == 8) fail(5, start);
          if (kind == 5) {
            int m = number(7);
            if (told.contains(m)) fail(4, start);
            told.add(m);
            next.pantry[m] = number(40);
          } else if (kind == 4) {
            int price = number(9);
            next.stuffs.add(new int[] {4, 0, 0, number(9), price});
          } else {
            int a = number(next.stuffs.size() - 1), b = number(next.stuffs.size() - 1);
            next.stuffs.add(new int[] {kind, a, b, number(9), 0});
            // the STUFF is there for its own stop alone, which is next
          }
          token();
          if (!token.equals(";")) fail(2, start);
          lines++;
        }
        for (int m : told) if (m >= next.stuffs.size()) fail(6, tape.length());
      } catch (Failed f) {
        tape = "";
        fault = f.kind;
        return -10 - f.place;
      }
      tape = "";
      fault = 0;
      w = next;
      images = new World[2];
      return lines;
    }

    int does(int d) {
      if (d < 0 || d > 17 || !w.is(d % 10)) return BAD;
      World next = w.behind(d);
      if (next == null) return STATE;
      w = next;
      return w.pantry[d % 10];
    }

    int best(int k, int what) {
      if (k < 0 || k > 4 || what < 0 || what > 1 && what < 10) return BAD;
      int sum = -1;
      List<Integer> row = null;
      for (int n = 0; n <= k; n++) {
        List<List<Integer>> rows = new ArrayList<>();
        List<World> ends = new ArrayList<>();
        allRows(w, n, new ArrayList<>(), rows, ends);
        for (int i = 0; i < rows.size(); i++)
          if (ends.get(i).worth() > sum) {
            sum = ends.get(i).worth();
            row = rows.get(i);
          }
      }
      if (what < 2) return what == 0 ? sum : row.size();
      return what - 10 < row.size() ? row.get(what - 10) : NONE;
    }

    int least(int m, int what) {
      if (!w.is(m) || what != 0 && what < 10) return BAD;
      for (int n = 0; n <= 4; n++) {
        List<List<Integer>> rows = new ArrayList<>();
        List<World> ends = new ArrayList<>();
        allRows(w, n, new ArrayList<>(), rows, ends);
        for (int i = 0; i < rows.size(); i++)
          if (ends.get(i).pantry[m] > 0) {
            if (what == 0) return n;
            return what - 10 < n ? rows.get(i).get(what - 10) : NONE;
          }
      }
      return NONE;
    }

    int fits() {
      int bits = 0;
      for (int m = 0; m < w.stuffs.size(); m++) {
        List<Integer> row = w.left(m);
        if (row.size() >= w.seen.size() && row.subList(0, w.seen.size()).equals(w.seen)) bits += 1 << m;
      }
      return bits;
    }

    int pairs(int what) {
      if (what < 0 || what > 1) return BAD;
      List<Integer> found = new ArrayList<>();
      List<Integer> seen = new ArrayList<>(w.seen);
      seen.sort(null);
      for (int a = 0; a < w.stuffs.size(); a++)
        for (int b = a; b < w.stuffs.size(); b++) {
          List<Integer> both = new ArrayList<>(w.left(a));
          both.addAll(w.left(b));
          both.sort(null);
          if (both.equals(seen)) found.add(10 * a + b);
        }
      return what == 0 ? found.size() : found.isEmpty() ? NONE : found.get(0);
    }

    int drift(int seed, int n, int what) {
      if (n < 1 || n > 60 || what < 0 || what > 1) return BAD;
      if (w.stuffs.isEmpty()) return STATE;
      World alone = w;
      int done = 0;
      for (int i = 0; i < n; i++) {
        seed = seed * 1103515245 + 12345;
        int m = (seed >> 16 & 32767) % w.stuffs.size();
        seed = seed * 1103515245 + 12345;
        World next = alone.behind(m + 10 * ((seed >> 16 & 32767) % 2));
        if (next == null) continue;
        alone = next;
        done++;
      }
      return what == 0 ? done : alone.things();
    }

    int cell(Object sheet, int lane, int i) {
      return lane == 0 ? ((byte[]) sheet)[i] : lane == 1 ? ((short[]) sheet)[i] : ((int[]) sheet)[i];
    }

    int size(Object sheet) {
      return java.lang.reflect.Array.getLength(sheet);
    }

    int read(int k, int lane, int f, int n) {
      if (k < 0 || k > 3 || lane < 0 || lane > 2 || n < 0 || n > 20) return BAD;
      World before = w;
      int found = 0, i = 0;
      for (; i < n && found == 0; i++) {
        try {
          if (does(cell(sheets[k], lane, f + i)) < 0) {
            w = before;
            return -20 - i;
          }
        } catch (NullPointerException e) {
          found = 1;
        } catch (ArrayIndexOutOfBoundsException e) {
          found = 2;
        } catch (ClassCastException e) {
          found = 3;
        }
      }
      torn = found;
      return found == 0 ? i : i - 1;
    }

    int lay(int k, int i, int v) {
      if (k < 0 || k > 3) return BAD;
      Object s = sheets[k];
      if (s == null) return -11;
      if (i < 0 || i >= size(s)) return -12;
      if (s instanceof byte[]) ((byte[]) s)[i] = (byte) v;
      else if (s instanceof short[]) ((short[]) s)[i] = (short) v;
      else ((int[]) s)[i] = v;
      return 1;
    }

    int sheet(int k, int lane, int n) {
      if (k < 0 || k > 3 || lane < 0 || lane > 2 || n > 40) return BAD;
      if (n < 0) return -14;
      sheets[k] = lane == 0 ? new byte[n] : lane == 1 ? (Object) new short[n] : new int[n];
      return 1;
    }

    int stuff(int m, int what) {
      if (!w.is(m) || what < 0 || what > 6) return BAD;
      int[] s = w.stuffs.get(m);
      int[] all = {s[0], w.raw(m) ? NONE : s[1], w.raw(m) ? NONE : s[2], s[3], w.raw(m) ? s[4] : NONE,
          w.half[m], w.pantry[m]};
      return all[what];
    }

    int rule(int what) {
      int raw = 0, there = 0;
      for (int m = 0; m < w.stuffs.size(); m++) {
        if (w.raw(m)) raw += 1 << m;
        if (w.pantry[m] > 0) there += 1 << m;
      }
      int[] all = {w.stuffs.size(), w.fed, w.doings, raw, there};
      return what < 0 || what > 4 ? BAD : all[what];
    }

    int count(int what) {
      int kept = (images[0] == null ? 0 : 1) + (images[1] == null ? 0 : 1);
      int[] all = {w.things(), w.worth(), w.seen.size(), kept, tape.length(), sheets[0] == null ? NONE : size(sheets[0])};
      return what < 0 || what > 5 ? BAD : all[what];
    }

    int change(int m, int v, int top, int field) {
      if (!w.is(m) || v < 0 || v > top) return BAD;
      if (field == 4 && !w.raw(m) || field == 0 && w.raw(m)) return STATE;
      int was = w.stuffs.get(m)[field];
      w.stuffs.get(m)[field] = v;
      return was;
    }

    int cost(Iterable<Integer> things) {
      int sum = 0;
      for (int x : things) sum += w.raw(x) ? w.stuffs.get(x)[4] : 0;
      return sum;
    }

    int many(List<Integer> row, int x) {
      int n = 0;
      for (int y : row) if (y == x) n++;
      return n;
    }

    int first(int m, int x) {
      List<List<Integer>> rows = w.rows(m);
      for (int i = 0; i < rows.size(); i++) if (rows.get(i).contains(x)) return i;
      return NONE;
    }
  }

  private static int wrong = 0;
  private static int asked = 0;
  private static Random random;
  private static final List<String> log = new ArrayList<>();

  private static void same(String call, long got, long want) {
    asked++;
    log.add(call + " = " + got);
    if (got != want && wrong++ < 5) {
      System.out.println(call + " answered " + got + ", the oracle " + want + "; ahead of it:");
      for (String s : log) System.out.println("  " + s);
    }
  }

  private static int up(int n) { return random.nextInt(n); }

  /** Mostly 0 to top, at times just outside it or far. */
  private static int near(int top) {
    int r = up(40);
    if (r == 0) return -1;
    if (r == 1) return top + 1;
    if (r == 2) return random.nextInt();
    if (r == 3) return Integer.MAX_VALUE - up(3);
    return up(top + 1);
  }

  private static String randomText() {
    StringBuilder s = new StringBuilder();
    int stuffs = up(12) == 0 ? up(10) : 3 + up(5);
    int raws = 1 + up(3);
    String[] names = {"mix", "boil", "burn", "salt"};
    int likely = up(6);
    for (int m = 0; m < stuffs; m++) {
      if (m < raws || up(12) == 0) s.append("raw ").append(up(10)).append(' ').append(up(10));
      else {
        int low = up(2) == 0 ? 0 : Math.max(0, m - 2);
        String name = likely < 4 && up(2) == 0 ? names[likely] : names[up(4)];
        s.append(name).append(' ').append(low + up(m - low)).append(' ').append(low + up(m - low)).append(' ').append(up(10));
      }
      s.append(';');
    }
    for (int m = 0; m < stuffs; m++)
      if (up(3) != 0) s.append("have ").append(m).append(' ').append(up(5) == 0 ? 36 + up(5) : up(7)).append(';');
    if (up(3) == 0)
      for (int i = 1 + up(2); i > 0 && s.length() > 0; i--) {
        int at = up(s.length());
        String signs = "  ;;0123456789rawmixboilburnsalthaveA#~";
        char c = signs.charAt(up(signs.length()));
        int how = up(3);
        if (how == 0) s.setCharAt(at, c);
        else if (how == 1) s.insert(at, c);
        else s.deleteCharAt(at);
      }
    if (up(10) == 0) s.setLength(up(s.length() + 1));
    return s.toString();
  }

  private static int feedAll(UncookMill x, Oracle o) {
    String text = randomText();
    log.add("text '" + text + "'");
    int calls = 0;
    for (int i = 0; i < text.length(); i++) {
      int c = text.charAt(i);
      int want = o.tape.length() >= 160 ? FULL : o.tape.length() + 1;
      if (want > 0) o.tape += (char) c;
      same("feed(" + c + ")", x.feed(c), want);
      calls++;
    }
    same("text()", x.text(), o.text());
    same("fault()", x.fault(), o.fault);
    return calls + 2;
  }

  private static void ask(UncookMill x, Oracle o, int which) {
    World w = o.w;
    int m = near(Math.max(0, w.stuffs.size() - 1)), y = near(Math.max(0, w.stuffs.size() - 1));
    boolean both = w.is(m) && w.is(y);
    switch (which) {
      case 0: { int c = near(127); int want = c < 0 || c > 127 ? BAD : o.tape.length() >= 160 ? FULL : o.tape.length() + 1;
        if (want > 0) o.tape += (char) c;
        same("feed(" + c + ")", x.feed(c), want); break; }
      case 1: { int n = near(o.tape.length()); boolean ok = n >= 0 && n <= o.tape.length(); int had = o.tape.length();
        if (ok) o.tape = o.tape.substring(0, n);
        same("end(" + n + ")", x.end(n), ok ? had : BAD); break; }
      case 2: same("fault()", x.fault(), o.fault); break;
      case 3: { int a = near(4); same("rule(" + a + ")", x.rule(a), o.rule(a)); break; }
      case 4: { int a = near(6); same("stuff(" + m + "," + a + ")", x.stuff(m, a), o.stuff(m, a)); break; }
      case 5: { int n = near(40); int want = w.is(m) && n >= 0 && n <= 40 ? w.pantry[m] : BAD;
        if (want >= 0) w.pantry[m] = n;
        same("fill(" + m + "," + n + ")", x.fill(m, n), want); break; }
      case 6: { int v = near(9); same("feeds(" + m + "," + v + ")", x.feeds(m, v), o.change(m, v, 9, 3)); break; }
      case 7: { int v = near(9); same("price(" + m + "," + v + ")", x.price(m, v), o.change(m, v, 9, 4)); break; }
      case 8: { int v = near(3); same("kind(" + m + "," + v + ")", x.kind(m, v), o.change(m, v, 3, 0)); break; }
      case 9: { int d = up(5) == 0 ? near(18) : m + 10 * up(2); same("does(" + d + ")", x.does(d), o.does(d)); break; }
      case 10: { int want = !w.is(m) ? BAD : w.pantry[m] == 0 ? STATE : w.fed + w.stuffs.get(m)[3];
        if (want >= 0) { w.pantry[m]--; w.fed = want; }
        same("eat(" + m + ")", x.eat(m), want); break; }
      case 11: { int a = near(1); int bits = 0;
        for (int i = 0; i < w.stuffs.size(); i++) if ((a == 0 || a == 1) && w.behind(10 * a + i) != null) bits += 1 << i;
        same("can(" + a + ")", x.can(a), a == 0 || a == 1 ? bits : BAD); break; }
      case 12: same("most(" + m + ")", x.most(m), !w.is(m) ? BAD : w.raw(m) ? STATE : w.most(m)); break;
      case 13: same("holds(" + m + "," + y + ")", x.holds(m, y), !both ? BAD : !w.raw(y) ? STATE : o.many(w.contents(m), y)); break;
      case 14: same("cost(" + m + ")", x.cost(m), !w.is(m) ? BAD : o.cost(w.contents(m))); break;
      case 15: { int a = near(1); same("turns(" + m + "," + a + ")", x.turns(m, a),
          !w.is(m) || a < 0 || a > 1 ? BAD : a == 0 ? w.rows(m).size() - 1 : w.left(m).size()); break; }
      case 16: { int i = near(up(2) == 0 ? 4 : 130); same("comes(" + m + "," + i + ")", x.comes(m, i),
          !w.is(m) || i < 0 ? BAD : i < w.left(m).size() ? w.left(m).get(i) : NONE); break; }
      case 17: { int n = near(up(2) == 0 ? 6 : 127); int want = BAD;
        if (both && n >= 0 && n <= 127) want = o.many(w.rows(m).get(Math.min(n, w.rows(m).size() - 1)), y);
        same("after(" + m + "," + n + "," + y + ")", x.after(m, n, y), want); break; }
      case 18: same("first(" + m + "," + y + ")", x.first(m, y), both ? o.first(m, y) : BAD); break;
      case 19: same("loss(" + m + ")", x.loss(m), w.is(m) ? o.cost(w.contents(m)) - o.cost(w.left(m)) : BAD); break;
      case 20: { int v = near(10), a = near(1); long want = BAD;
        if (both && v >= 0 && v <= 10 && (a == 0 || a == 1)) want = w.raw(y) ? w.mean(v, m, y)[a].longValueExact() : STATE;
        same("mean(" + v + "," + m + "," + y + "," + a + ")", x.mean(v, m, y, a), want); break; }
      case 21: { int k = up(12) == 0 ? near(4) : up(4), a = up(2) == 0 ? up(2) : near(14);
        same("best(" + k + "," + a + ")", x.best(k, a), o.best(k, a)); break; }
      case 22: { int a = up(2) == 0 ? 0 : near(14); same("least(" + m + "," + a + ")", x.least(m, a), o.least(m, a)); break; }
      case 23: { int want = !w.is(m) ? BAD : w.seen.size() == 8 ? FULL : w.seen.size() + 1;
        if (want > 0) w.seen.add(m);
        same("see(" + m + ")", x.see(m), want); break; }
      case 24: { int n = near(w.seen.size()); int had = w.seen.size(); boolean ok = n >= 0 && n <= had;
        if (ok) w.seen = new ArrayList<>(w.seen.subList(0, n));
        same("forget(" + n + ")", x.forget(n), ok ? had : BAD); break; }
      case 25: same("fits()", x.fits(), o.fits()); break;
      case 26: { int a = near(1); same("pairs(" + a + ")", x.pairs(a), o.pairs(a)); break; }
      case 27: { int seed = random.nextInt(), n = near(60), a = near(1);
        same("drift(" + seed + "," + n + "," + a + ")", x.drift(seed, n, a), o.drift(seed, n, a)); break; }
      case 28: { int k = near(1); int want = k < 0 || k > 1 ? BAD : o.images[k] == null ? 0 : 1;
        if (want >= 0) o.images[k] = w.copy();
        same("keep(" + k + ")", x.keep(k), want); break; }
      case 29: { int k = near(1); int want = k < 0 || k > 1 ? BAD : o.images[k] == null ? STATE : o.images[k].fed;
        if (want >= 0) o.w = o.images[k].copy();
        same("back(" + k + ")", x.back(k), want); break; }
      case 30: { int k = near(3), lane = near(2), n = up(3) == 0 ? near(40) : up(6);
        same("sheet(" + k + "," + lane + "," + n + ")", x.sheet(k, lane, n), o.sheet(k, lane, n)); break; }
      case 31: { int k = near(3), i = near(4), v = up(4) == 0 ? random.nextInt() : m + 10 * up(2) + 256 * up(2) + 65536 * up(2);
        same("lay(" + k + "," + i + "," + v + ")", x.lay(k, i, v), o.lay(k, i, v)); break; }
      case 32: { int k = near(3), lane = near(2), f = near(3), n = up(3) == 0 ? near(20) : up(4);
        same("read(" + k + "," + lane + "," + f + "," + n + ")", x.read(k, lane, f, n), o.read(k, lane, f, n)); break; }
      case 33: same("torn()", x.torn(), o.torn); break;
      default: { int a = near(5); same("count(" + a + ")", x.count(a), o.count(a)); break; }
    }
  }

  /** DOINGS laid on SHEETS that can be done, which chance seldom lays. */
  private static void layAbleRow(UncookMill x, Oracle o) {
    int k = up(4), lane = up(3), n = 1 + up(5);
    same("sheet", x.sheet(k, lane, n), o.sheet(k, lane, n));
    World w = o.w;
    for (int i = 0; i < n; i++) {
      List<Integer> able = new ArrayList<>();
      for (int d = 0; d < 18; d++) if (w.is(d % 10) && w.behind(d) != null) able.add(d);
      int d = able.isEmpty() || up(8) == 0 ? up(18) : able.get(up(able.size()));
      if (able.contains(d)) w = w.behind(d);
      same("lay(" + k + "," + i + "," + d + ")", x.lay(k, i, d), o.lay(k, i, d));
    }
    int as = up(6) == 0 ? up(3) : lane, from = up(5) == 0 ? up(3) - 1 : 0, many = up(n + 2);
    same("read(" + k + "," + as + "," + from + "," + many + ")", x.read(k, as, from, many), o.read(k, as, from, many));
    same("torn()", x.torn(), o.torn);
  }

  private static void compareAll(UncookMill x, Oracle o) {
    for (int m = 0; m < 8; m++)
      for (int what = 0; what <= 6; what++) same("stuff(" + m + "," + what + ")", x.stuff(m, what), o.stuff(m, what));
    for (int what = 0; what <= 4; what++) same("rule(" + what + ")", x.rule(what), o.rule(what));
    for (int what = 0; what <= 5; what++) same("count(" + what + ")", x.count(what), o.count(what));
  }

  public static void main(String[] args) {
    for (int run = 1; run <= RUNS && wrong == 0; run++) {
      random = new Random(run);
      log.clear();
      UncookMill x = new UncookMill();
      Oracle o = new Oracle();
      int calls = up(10) == 0 ? 0 : feedAll(x, o);
      while (calls < CALLS && wrong == 0) {
        int which = up(35);
        if ((which == 21 || which == 22) && up(3) != 0) which = 9;
        ask(x, o, which);
        calls++;
        if (up(40) == 0) { layAbleRow(x, o); calls += 10; }
        if (up(160) == 0) { same("end(0)", x.end(0), o.tape.length()); o.tape = ""; calls += feedAll(x, o); }
      }
      compareAll(x, o);
    }
    System.out.println("OracleTest: " + asked + " answers, " + wrong + " wrong");
    if (wrong != 0) System.exit(1);
  }
}
