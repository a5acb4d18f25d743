import java.util.ArrayList;
import java.util.HashMap;
import java.util.List;
import java.util.Map;

/**
 * The document told a second time, as plainly and slowly as it can be, for the tests alone: all is looked
 * through, nothing is cut short, and each state is a copy.
 */
final class PlainBorder {
  static final class Fault extends RuntimeException {
    private static final long serialVersionUID = 1L;
    final int number;
    Fault(int place, int kind) { super(null, null, false, false); number = 1 + 8 * place + kind; }
  }

  interface Sum { long of(State s, int mile, int warmth); }
  interface Test { boolean of(State s, int mile, int warmth); }

  static final class Clause {
    Sum sum;
    Test test;
  }

  static final class Village {
    int mile, place, owner;
  }

  static final class Told {
    int miles, damp;
    Map<Integer, Integer> warmth = new HashMap<>();
    List<Village> villages = new ArrayList<>();
    List<int[]> wants = new ArrayList<>();
    State first;
    int warm(int night) { return warmth.getOrDefault(night, 0); }
  }

  static final class State {
    Told told;
    int[] line, dough, salt, crossed;
    boolean[] baked;
    int night;

    State copy() {
      State s = new State();
      s.told = told;
      s.line = line.clone();
      s.dough = dough.clone();
      s.salt = salt.clone();
      s.crossed = crossed.clone();
      s.baked = baked.clone();
      s.night = night;
      return s;
    }

    int lies(int village) {
      Village v = told.villages.get(village);
      return v.place < line[v.mile] ? 0 : v.place > line[v.mile] ? 1 : 2;
    }

    int[] lieAll() {
      int[] all = new int[told.villages.size()];
      for (int v = 0; v < all.length; v++) all[v] = lies(v);
      return all;
    }

    int cross(int[] before) {
      int n = 0;
      for (int v = 0; v < before.length; v++) {
        if (before[v] != lies(v)) {
          crossed[v]++;
          n++;
        }
      }
      return n;
    }

    int night(List<Clause> rule, int warmth) {
      int[] before = lieAll();
      for (int m = 0; m < told.miles; m++) {
        if (!baked[m]) dough[m] = Math.min(99, dough[m] + warmth);
      }
      State risen = copy();
      for (int m = 0; m < told.miles; m++) {
        if (baked[m]) continue;
        long feet = 0;
        if (rule == null) {
          feet = risen.dough[m] / 20 + told.damp - risen.salt[m];
        } else {
          for (Clause c : rule) {
            if (c.test == null || c.test.of(risen, m, warmth)) {
              feet = c.sum.of(risen, m, warmth);
              break;
            }
          }
        }
        if (feet > 3) feet = 3;
        if (feet < -3) feet = -3;
        line[m] += (int) feet;
        if (line[m] > 20) line[m] = 20;
        if (line[m] < -20) line[m] = -20;
      }
      for (int m = 0; m < told.miles - 1; m++) {
        int a = line[m], b = line[m + 1];
        if (Math.abs(a - b) > 4) {
          if (!baked[m]) line[m] = a < b ? a + 1 : a - 1;
          if (!baked[m + 1]) line[m + 1] = b < a ? b + 1 : b - 1;
        }
      }
      if (night < 999) night++;
      return cross(before);
    }

    int night(List<Clause> rule) { return night(rule, told.warm(night)); }

    void shove(int mile, int feet) {
      line[mile] = Math.max(-20, Math.min(20, line[mile] + feet));
    }

    int score() {
      int sum = 0;
      for (int side : lieAll()) sum += side == 0 ? 1 : side == 1 ? -1 : 0;
      return sum;
    }
  }

  static final class Whole {
    State state;
    List<State> acts = new ArrayList<>();
    List<int[]> logs = new ArrayList<>();
    int force = -1, x;

    Whole copy() {
      Whole w = new Whole();
      w.state = state == null ? null : state.copy();
      for (State s : acts) w.acts.add(s.copy());
      w.logs.addAll(logs);
      w.force = force;
      w.x = x;
      return w;
    }
  }

  /** Reads by a cursor; the first thing that is wrong is thrown. */
  static final class Reading {
    final byte[] text;
    int at;
    int many;

    Reading(byte[] text) { this.text = text; }

    int look() {
      while (at < text.length && text[at] == 32) at++;
      return at < text.length ? text[at] & 255 : -1;
    }

    String wordHere() {
      look();
      int e = at;
      while (e < text.length && text[e] >= 'a' && text[e] <= 'z') e++;
      return new String(text, at, e - at, java.nio.charset.StandardCharsets.ISO_8859_1);
    }

    int number(int low, int high) {
      int c = look();
      if (c < '0' || c > '9') throw new Fault(at, 0);
      int e = at;
      String digits = "";
      while (e < text.length && text[e] >= '0' && text[e] <= '9') digits += (char) text[e++];
      if (digits.length() > 5) throw new Fault(at, 1);
      int n = Integer.parseInt(digits);
      if (n < low || n > high) throw new Fault(at, 1);
      at = e;
      return n;
    }

    boolean atEndOfClause() {
      int c = look();
      if (c == -1) return true;
      if (c != ';') throw new Fault(at, 0);
      at++;
      return false;
    }

    Told strip() {
      Told t = new Told();
      State f = new State();
      t.first = f;
      f.told = t;
      for (int clause = 1; ; clause++) {
        String w = wordHere();
        if (!List.of("strip", "mile", "warm", "baked", "village", "want").contains(w)) throw new Fault(at, 0);
        if (clause > 40) throw new Fault(at, 4);
        if (w.equals("strip") && clause != 1) throw new Fault(at, 4);
        if (!w.equals("strip") && clause == 1) throw new Fault(at, 4);
        if (w.equals("village") && t.villages.size() == 8) throw new Fault(at, 4);
        if (w.equals("want") && t.wants.size() == 8) throw new Fault(at, 4);
        at += w.length();
        if (w.equals("strip")) {
          t.miles = number(2, 10);
          t.damp = number(0, 3);
          f.line = new int[t.miles];
          f.dough = new int[t.miles];
          java.util.Arrays.fill(f.dough, 10);
          f.salt = new int[t.miles];
          f.baked = new boolean[t.miles];
        } else if (w.equals("mile")) {
          int m = number(0, t.miles - 1);
          f.line[m] = number(0, 40) - 20;
          f.dough[m] = number(0, 99);
          f.salt[m] = number(0, 9);
        } else if (w.equals("warm")) {
          int a = number(0, 99);
          int b = number(a, 99);
          int how = number(1, 9);
          for (int n = a; n <= b; n++) t.warmth.put(n, how);
        } else if (w.equals("baked")) {
          f.baked[number(0, t.miles - 1)] = true;
        } else if (w.equals("village")) {
          Village v = new Village();
          v.mile = number(0, t.miles - 1);
          v.place = number(0, 40) - 20;
          v.owner = number(0, 1);
          t.villages.add(v);
        } else {
          t.wants.add(new int[] {number(0, t.villages.size() - 1), number(0, 1)});
        }
        if (atEndOfClause()) break;
      }
      f.crossed = new int[t.villages.size()];
      return t;
    }

    List<Clause> rule() {
      List<Clause> all = new ArrayList<>();
      for (int clause = 1; ; clause++) {
        String w = wordHere();
        if (!w.equals("creep")) throw new Fault(at, 0);
        if (clause > 12) throw new Fault(at, 4);
        at += 5;
        Clause c = new Clause();
        c.sum = sum();
        if (wordHere().equals("if")) {
          at += 2;
          c.test = test(0);
        }
        all.add(c);
        if (atEndOfClause()) return all;
      }
    }

    Test test(int deep) {
      Test a = both(deep);
      while (wordHere().equals("or")) {
        at += 2;
        Test l = a, r = both(deep);
        a = (s, m, h) -> l.of(s, m, h) || r.of(s, m, h);
      }
      return a;
    }

    Test both(int deep) {
      Test a = fact(deep);
      while (wordHere().equals("and")) {
        at += 3;
        Test l = a, r = fact(deep);
        a = (s, m, h) -> l.of(s, m, h) && r.of(s, m, h);
      }
      return a;
    }

    Test fact(int deep) {
      if (wordHere().equals("not")) {
        if (deep == 10) throw new Fault(at, 2);
        at += 3;
        Test t = fact(deep + 1);
        return (s, m, h) -> !t.of(s, m, h);
      }
      if (look() == '[') {
        if (deep == 10) throw new Fault(at, 2);
        at++;
        Test t = test(deep + 1);
        if (look() != ']') throw new Fault(at, 0);
        at++;
        return t;
      }
      Sum a = sum();
      int c = look();
      if (c != '<' && c != '>' && c != '=') throw new Fault(at, 0);
      if (++many > 60) throw new Fault(at, 3);
      at++;
      boolean also = c != '=' && at < text.length && text[at] == '=';
      if (also) at++;
      Sum b = sum();
      return (s, m, h) -> {
        long p = a.of(s, m, h), q = b.of(s, m, h);
        if (p == q) return c == '=' || also;
        return c == '<' ? p < q : c == '>' && p > q;
      };
    }

    Sum sum() {
      Sum a = term();
      while (look() == '+' || look() == '-') {
        boolean plus = text[at++] == '+';
        Sum l = a, r = term();
        a = (s, m, h) -> plus ? l.of(s, m, h) + r.of(s, m, h) : l.of(s, m, h) - r.of(s, m, h);
      }
      return a;
    }

    Sum term() {
      Sum a = value();
      while (look() == '*' || look() == '/' || look() == '%') {
        int c = text[at++];
        Sum l = a, r = value();
        a = (s, m, h) -> {
          long p = l.of(s, m, h), q = r.of(s, m, h);
          if (c == '*') return p * q;
          if (q == 0) return 0;
          return c == '/' ? p / q : p % q;
        };
      }
      return a;
    }

    Sum value() {
      int c = look();
      int from = at;
      Sum v;
      if (c >= '0' && c <= '9') {
        long n = number(0, 99999);
        v = (s, m, h) -> n;
      } else {
        String w = wordHere();
        v = word(w);
        if (v == null) throw new Fault(at, 0);
        at += w.length();
      }
      if (++many > 60) throw new Fault(from, 3);
      return v;
    }

    static Sum word(String w) {
      switch (w) {
        case "mile": return (s, m, h) -> m;
        case "line": return (s, m, h) -> s.line[m];
        case "dough": return (s, m, h) -> s.dough[m];
        case "salt": return (s, m, h) -> s.salt[m];
        case "damp": return (s, m, h) -> s.told.damp;
        case "warm": return (s, m, h) -> h;
        case "night": return (s, m, h) -> s.night;
        case "above": return (s, m, h) -> m == 0 ? s.line[m] : s.line[m - 1];
        case "below": return (s, m, h) -> m == s.told.miles - 1 ? s.line[m] : s.line[m + 1];
        case "west": return (s, m, h) -> lying(s, m, 0);
        case "east": return (s, m, h) -> lying(s, m, 1);
        case "crust": return (s, m, h) -> (m > 0 && s.baked[m - 1] ? 1 : 0)
            + (m < s.told.miles - 1 && s.baked[m + 1] ? 1 : 0);
        default: return null;
      }
    }

    static long lying(State s, int mile, int side) {
      long n = 0;
      for (int v = 0; v < s.told.villages.size(); v++) {
        if (s.told.villages.get(v).mile == mile && s.lies(v) == side) n++;
      }
      return n;
    }
  }

  private byte[] tape = new byte[0];
  private final List<List<Clause>> rules = new ArrayList<>();
  private Whole now = new Whole();
  private final Whole[] images = new Whole[4];

  private List<Clause> law() { return now.force < 0 ? null : rules.get(now.force); }
  private boolean none() { return now.state == null; }
  private int miles() { return none() ? 0 : now.state.told.miles; }
  private int villages() { return none() ? 0 : now.state.told.villages.size(); }
  private boolean mileIs(int m) { return m >= 0 && m < miles(); }
  private boolean soft(int m) { return mileIs(m) && !now.state.baked[m]; }
  private boolean villageIs(int v) { return v >= 0 && v < villages(); }
  private static boolean in(int x, int low, int high) { return x >= low && x <= high; }

  int feed(int... five) {
    if (tape.length + 20 > 400) return -1;
    byte[] more = java.util.Arrays.copyOf(tape, tape.length + 20);
    for (int k = 0; k < 20; k++) more[tape.length + k] = (byte) (five[k / 4] >>> (24 - k % 4 * 8));
    tape = more;
    return tape.length;
  }

  int end(int n) {
    if (n < 0 || n > tape.length) return -1;
    tape = java.util.Arrays.copyOf(tape, n);
    return n;
  }

  int strip() {
    byte[] text = tape;
    tape = new byte[0];
    try {
      Told t = new Reading(text).strip();
      now.state = t.first.copy();
      now.acts.clear();
      now.logs.clear();
      return t.villages.size();
    } catch (Fault f) {
      return -2 - f.number;
    }
  }

  int rule() {
    if (rules.size() == 6) return -1;
    byte[] text = tape;
    tape = new byte[0];
    try {
      rules.add(new Reading(text).rule());
      return rules.size() - 1;
    } catch (Fault f) {
      return -2 - f.number;
    }
  }

  int force(int r) {
    if (!in(r, -1, rules.size() - 1)) return -2;
    int was = now.force;
    now.force = r;
    return was;
  }

  int mile(int m, int what) {
    if (!mileIs(m) || !in(what, 0, 4)) return -100;
    State s = now.state;
    if (what == 4) {
      int bits = 0;
      for (int v = 0; v < villages(); v++) if (s.told.villages.get(v).mile == m) bits += 1 << v;
      return bits;
    }
    return what == 0 ? s.line[m] : what == 1 ? s.dough[m] : what == 2 ? s.salt[m] : s.baked[m] ? 1 : 0;
  }

  int village(int v, int what) {
    if (!villageIs(v) || !in(what, 0, 4)) return -100;
    Village t = now.state.told.villages.get(v);
    return new int[] {t.mile, t.place, t.owner, now.state.lies(v), now.state.crossed[v]}[what];
  }

  int warm(int n) { return n < 0 || none() ? -1 : now.state.told.warm(n); }

  private void act() {
    now.acts.add(now.state.copy());
    if (now.acts.size() > 20) now.acts.remove(0);
  }

  int night() {
    if (none() || now.state.night == 999) return -1;
    act();
    return now.state.night(law());
  }

  int horses(int m, int feet) {
    if (!soft(m) || feet == 0 || !in(feet, -3, 3)) return -100;
    act();
    int[] before = now.state.lieAll();
    now.state.shove(m, feet);
    now.state.cross(before);
    return now.state.line[m];
  }

  int salt(int m) {
    if (!mileIs(m) || now.state.salt[m] == 9) return -1;
    act();
    return ++now.state.salt[m];
  }

  int sugar(int m) {
    if (!soft(m)) return -1;
    act();
    if (now.state.salt[m] > 0) now.state.salt[m]--;
    now.state.dough[m] = Math.min(99, now.state.dough[m] + 10);
    return now.state.dough[m];
  }

  int slice(int m, int dough) {
    if (!soft(m) || !in(dough, 1, 99) || now.state.dough[m] < dough) return -1;
    act();
    now.state.dough[m] -= dough;
    return now.state.dough[m];
  }

  boolean bake(int m) {
    if (!soft(m)) return false;
    act();
    now.state.baked[m] = true;
    return true;
  }

  int undo() {
    if (now.acts.isEmpty()) return -2;
    now.state = now.acts.remove(now.acts.size() - 1);
    return now.acts.size();
  }

  int ahead(int m, int n, int what) {
    if (!mileIs(m) || !in(n, 0, 100) || !in(what, 0, 2)) return -100;
    State s = now.state.copy();
    for (int k = 0; k < n; k++) s.night(law());
    if (what == 0) return s.line[m];
    if (what == 1) return s.dough[m];
    int bits = 0;
    for (int v = 0; v < villages(); v++) if (s.lies(v) == 1) bits += 1 << v;
    return bits;
  }

  int crosses(int v) {
    if (!villageIs(v)) return -1;
    State s = now.state.copy();
    for (int k = 0; k < 60; k++) {
      int was = s.lies(v);
      int night = s.night;
      s.night(law());
      if (s.lies(v) != was) return night;
    }
    return -2;
  }

  /** All rows in their order, each with the fewest kept by a strict comparison. */
  int push(int n, int what) {
    if (none() || !in(n, 1, 3) || !in(what, 0, 3)) return -3;
    if (what > n) return -2;
    int choices = 1 + 2 * miles();
    int rows = (int) Math.pow(choices, n);
    int best = 99;
    int[] bestRow = null;
    for (int r = 0; r < rows; r++) {
      int[] row = new int[n];
      int left = r;
      for (int k = n - 1; k >= 0; k--) {
        row[k] = left % choices - 1;
        left /= choices;
      }
      int pushes = 0;
      boolean can = true;
      for (int c : row) {
        if (c >= 0) pushes++;
        if (c >= 0 && now.state.baked[c / 2]) can = false;
      }
      if (!can || pushes >= best) continue;
      State s = now.state.copy();
      for (int c : row) {
        if (c >= 0) s.shove(c / 2, c % 2 == 1 ? 2 : -2);
        s.night(law());
      }
      boolean all = true;
      for (int[] w : s.told.wants) if (s.lies(w[0]) != w[1]) all = false;
      if (all) {
        best = pushes;
        bestRow = row;
      }
    }
    if (bestRow == null) return -2;
    return what == 0 ? best : bestRow[what - 1];
  }

  int dukes(int n, int what) {
    if (none() || !in(n, 1, 4) || !in(what, 0, 1)) return -100;
    int[] best = play(now.state, n, true);
    return best[what];
  }

  private int[] play(State s, int left, boolean west) {
    if (left == 0) return new int[] {s.score(), -1};
    int[] best = null;
    for (int m = -1; m < miles(); m++) {
      if (m >= 0 && s.baked[m]) continue;
      State t = s.copy();
      if (m >= 0) t.shove(m, west ? 1 : -1);
      t.night(law());
      int got = play(t, left - 1, !west)[0];
      if (best == null || (west ? got > best[0] : got < best[0])) best = new int[] {got, m};
    }
    return best;
  }

  int log(int n, int m, int dough) {
    if (n == -1) {
      now.logs.clear();
      return 0;
    }
    if (!in(n, 0, 30) || !mileIs(m) || !in(dough, 0, 99) || now.logs.size() == 10) return -2;
    now.logs.add(new int[] {n, m, dough});
    return now.logs.size();
  }

  /** Dough of all miles at the begins of nights 0 to 30, by whole nights; null if it can't have been. */
  private int[][] stolen(int mile, int night, int size) {
    State s = now.state.told.first.copy();
    int[][] all = new int[31][];
    for (int n = 0; n <= 30; n++) {
      if (n == night) {
        if (s.baked[mile] || s.dough[mile] < size) return null;
        s.dough[mile] -= size;
      }
      all[n] = s.dough.clone();
      s.night(law());
    }
    return all;
  }

  private List<int[]> thefts(int size, List<int[][]> doughs) {
    List<int[]> all = new ArrayList<>();
    for (int m = 0; m < miles(); m++) {
      for (int n = 0; n < 30; n++) {
        int[][] d = stolen(m, n, size);
        if (d == null) continue;
        boolean so = true;
        for (int[] l : now.logs) if (d[l[0]][l[1]] != l[2]) so = false;
        if (so) {
          all.add(new int[] {m, n});
          doughs.add(d);
        }
      }
    }
    return all;
  }

  int theft(int size, int what) {
    if (none() || !in(size, 1, 99) || !in(what, 0, 2)) return -1;
    List<int[]> all = thefts(size, new ArrayList<>());
    if (what == 0) return all.size();
    return all.isEmpty() ? -2 : all.get(0)[what - 1];
  }

  int weigh(int size, int n, int what) {
    if (none() || !in(size, 1, 99) || !in(n, 0, 30) || !in(what, 0, 1)) return -1;
    List<int[][]> doughs = new ArrayList<>();
    if (thefts(size, doughs).isEmpty()) return -2;
    int best = -1, fewest = 9999;
    for (int m = 0; m < miles(); m++) {
      Map<Integer, Integer> groups = new HashMap<>();
      for (int[][] d : doughs) groups.merge(d[n][m], 1, Integer::sum);
      int most = java.util.Collections.max(groups.values());
      if (most < fewest) {
        fewest = most;
        best = m;
      }
    }
    return what == 0 ? best : fewest;
  }

  int crust(int m, int v, int n, int what) {
    if (!mileIs(m) || !villageIs(v) || !in(n, 1, 60) || !in(what, 0, 1)) return -2;
    int best = -1, most = own(m, v, n, -1);
    if (!now.state.baked[m]) {
      for (int k = n - 1; k >= 0; k--) {
        int got = own(m, v, n, k);
        if (got > most) {
          most = got;
          best = now.state.night + k;
        }
      }
    }
    return what == 0 ? best : most;
  }

  private int own(int m, int v, int n, int when) {
    State s = now.state.copy();
    int got = 0;
    for (int k = 0; k < n; k++) {
      if (k == when) s.baked[m] = true;
      s.night(law());
      if (s.lies(v) == s.told.villages.get(v).owner) got++;
    }
    return got;
  }

  int peace(int n, int what) {
    if (none() || !in(n, 1, 60) || !in(what, 0, 1)) return -1;
    int best = -1;
    for (int set = 0; set < 1 << miles(); set++) {
      State s = now.state.copy();
      boolean can = best < 0 || Integer.bitCount(set) < Integer.bitCount(best);
      for (int m = 0; m < miles(); m++) {
        if ((set >> m & 1) == 1) {
          if (s.baked[m]) can = false;
          s.baked[m] = true;
        }
      }
      if (!can) continue;
      int crossed = 0;
      for (int k = 0; k < n; k++) crossed += s.night(law());
      if (crossed == 0) best = set;
    }
    if (best < 0) return -2;
    return what == 0 ? Integer.bitCount(best) : best;
  }

  int part(int part) {
    if (none() || !in(part, 0, 1)) return -1;
    int west = 0;
    for (int l : now.state.line) west += l + 20;
    int all = 41 * miles();
    for (int d = all; d > 1; d--) {
      if (west % d == 0 && all % d == 0) {
        west /= d;
        all /= d;
      }
    }
    return part == 0 ? west : all;
  }

  int seed(int x) {
    if (x < 0) return -1;
    int was = now.x;
    now.x = x;
    return was;
  }

  int summers(int m, int n, int what) {
    if (none() || !in(m, 1, 10) || !in(n, 1, 60) || !in(what, 0, 1)) return -1;
    java.math.BigInteger x = java.math.BigInteger.valueOf(now.x);
    int crossed = 0, feet = 0;
    for (int k = 0; k < m; k++) {
      State s = now.state.copy();
      for (int j = 0; j < n; j++) {
        x = x.multiply(java.math.BigInteger.valueOf(1103515245)).add(java.math.BigInteger.valueOf(12345))
            .mod(java.math.BigInteger.valueOf(2147483648L));
        crossed += s.night(law(), x.intValueExact() / 65536 % 10);
      }
      for (int j = 0; j < miles(); j++) feet += Math.abs(s.line[j] - now.state.line[j]);
    }
    return what == 0 ? crossed : feet;
  }

  int count(int what) {
    State s = now.state;
    int bits = 0, crossed = 0;
    for (int m = 0; m < miles(); m++) if (s.baked[m]) bits += 1 << m;
    for (int v = 0; v < villages(); v++) crossed += s.crossed[v];
    switch (what) {
      case 0: return miles();
      case 1: return none() ? 0 : s.told.damp;
      case 2: return villages();
      case 3: return none() ? 0 : s.told.wants.size();
      case 4: return rules.size();
      case 5: return now.force;
      case 6: return none() ? 0 : s.night;
      case 7: return bits;
      case 8: return crossed;
      case 9: return now.logs.size();
      case 10: return now.acts.size();
      case 11: return now.x;
      case 12: return tape.length;
      default: return -1;
    }
  }

  int image(int k) {
    if (!in(k, 0, 3)) return -1;
    images[k] = now.copy();
    return count(6);
  }

  int back(int k) {
    if (!in(k, 0, 3) || images[k] == null) return -1;
    now = images[k].copy();
    return count(6);
  }
}
