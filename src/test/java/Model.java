import java.util.ArrayList;
import java.util.HashMap;
import java.util.List;
import java.util.Map;

/**
 * A second telling of the document, for RandomRunsTest and BoundsTest alone: as slow and as near to its words as can be,
 * with lists, strings, exceptions and recursion, so that a slip in the program is not made here too.
 */
final class Model implements Calls {
  static final int BAD = -1000000001, NO = -1000000002, FULL = -1000000003, NONE = -1000000005;
  static final int NOTHING = -1000000011, KIND = -1000000012, INDEX = -1000000013, SIZE = -1000000014;

  static final class Refused extends RuntimeException {
    private static final long serialVersionUID = 1L;
    final int answer;
    Refused(int answer) { super(null, null, false, false); this.answer = answer; }
  }

  static final class Sheet {
    boolean floats;
    List<Integer> row = new ArrayList<>(); // null: NO NUMBER
    Sheet again() { Sheet s = new Sheet(); s.floats = floats; s.row.addAll(row); return s; }
  }

  static final class Stone {
    int kind, raw, size, turned, laid = 16, trust = 50;

    Stone again() {
      Stone s = new Stone();
      s.kind = kind; s.raw = raw; s.size = size; s.turned = turned; s.laid = laid; s.trust = trust;
      return s;
    }

    int says(int p) { return saysAs(kind, p); }

    int saysAs(int kind, int p) {
      switch (kind) {
        case 0: {
          int at = turned == 1 ? size - 1 - p : p;
          int power = 1;
          for (int i = 0; i < at; i++) power *= 4;
          return raw / power % 4;
        }
        case 1: { int v = saysAs(0, p); return v > 0 ? Math.min(3, v + 1) : v; }
        case 3: { int v = saysAs(1, p); return v > 0 ? Math.min(3, v + 1) : v; }
        case 2: return Math.max(0, saysAs(0, p) - 1);
        case 4: return p == size / 2 ? 3 : saysAs(2, p);
        default: return 2;
      }
    }

    int losesAs(int kind) {
      switch (kind) {
        case 0: return 5;
        case 1: return losesAs(0) + 2;
        case 3: return 2 * losesAs(1);
        case 2: return losesAs(0) - 2;
        case 4: return losesAs(2);
        default: return 20;
      }
    }

    int worthAs(int kind) {
      switch (kind) {
        case 0: return trust;
        case 1: return worthAs(0) + 5;
        case 3: return 2 * worthAs(1);
        case 2: return 99 - trust;
        case 4: return worthAs(2) - 6;
        default: return 1;
      }
    }

    List<Integer> covers() {
      List<Integer> places = new ArrayList<>();
      if (laid < 16) for (int x = laid; x <= laid + size - 1; x++) if (x < 16) places.add(x);
      return places;
    }

    boolean under(int asked) {
      Map<Integer, Integer> above = Map.of(1, 0, 2, 0, 5, 0, 3, 1, 4, 2);
      Integer k = kind;
      while (k != null) { if (k == asked) return true; k = above.get(k); }
      return false;
    }
  }

  /** What AN IMAGE keeps. */
  static final class State {
    List<Stone> stones = new ArrayList<>();
    int[] marks = new int[16];
    List<String> texts = new ArrayList<>();
    int tide, found, z = 1;

    State again() {
      State s = new State();
      for (Stone t : stones) s.stones.add(t.again());
      s.marks = marks.clone();
      s.texts.addAll(texts);
      s.tide = tide; s.found = found; s.z = z;
      return s;
    }

    int draw(int by) {
      z = (int) ((long) z * 1103515245L + 12345L);
      return (int) ((z & 0xffffffffL) / 256 % by);
    }

    /** The number of the TEXT that counts, or -1. */
    int counts(String key) {
      for (int i = texts.size() - 1; i >= 0; i--) if (texts.get(i).trim().startsWith(key)) return i;
      return -1;
    }

    int gains(Stone s, int kind) {
      switch (kind) {
        case 0: {
          int text = counts("gain");
          return text < 0 ? 3 : Math.max(0, Math.min(99, new Grammar(texts.get(text), this, s).value()));
        }
        case 1: return gains(s, 0) + 1;
        case 3: return gains(s, 1);
        case 2: return gains(s, 0) / 2;
        case 4: return gains(s, 2) + 2;
        default: return 0;
      }
    }

    void tide() {
      int x = draw(16);
      for (Stone s : stones) {
        if (!s.covers().contains(x)) continue;
        if (s.says(x - s.laid) == marks[x]) s.trust = Math.min(99, s.trust + gains(s, s.kind));
        else s.trust -= s.losesAs(s.kind);
        if (s.trust <= 0) { s.trust = 0; s.laid = 16; found++; }
      }
      tide++;
    }

    int trust() { int sum = 0; for (Stone s : stones) sum += s.trust; return sum; }

    int laid() { int set = 0; for (int k = 0; k < stones.size(); k++) if (stones.get(k).laid < 16) set += 1 << k; return set; }

    boolean clash(int a, int b) {
      Stone s = stones.get(a), t = stones.get(b);
      for (int x : s.covers()) if (t.covers().contains(x) && s.says(x - s.laid) != t.says(x - t.laid)) return true;
      return false;
    }

    int covered(int set) {
      int all = 0;
      for (int k = 0; k < stones.size(); k++) if ((set >> k & 1) == 1) for (int x : stones.get(k).covers()) all |= 1 << x;
      return all;
    }

    int falseAt(Stone s, int x) {
      int n = 0;
      for (int p = 0; p < s.size; p++) if (x + p < 16 && s.says(p) != marks[x + p]) n++;
      return n;
    }
  }

  /** The grammar, one method a rule, over the bytes themselves; a FAULT is thrown with its place. */
  static final class Grammar {
    static final class Fault extends RuntimeException {
      private static final long serialVersionUID = 1L;
      final int place;
      Fault(int place) { super(null, null, false, false); this.place = place; }
    }

    final String bytes;
    final State state;
    final Stone stone;
    final List<Integer> places = new ArrayList<>();
    final List<String> words = new ArrayList<>();
    int next = 0, open = 0, nots = 0, pieces = 0;
    String key;

    Grammar(String bytes, State state, Stone stone) {
      this.bytes = bytes; this.state = state; this.stone = stone;
      int i = 0;
      while (i < bytes.length()) {
        char c = bytes.charAt(i);
        if (c == ' ') { i++; continue; }
        int j = i + 1;
        if (letter(c)) while (j < bytes.length() && letter(bytes.charAt(j))) j++;
        else if (digit(c)) while (j < bytes.length() && digit(bytes.charAt(j))) j++;
        places.add(i); words.add(bytes.substring(i, j));
        i = j;
      }
    }

    static boolean letter(char c) { return c >= 'a' && c <= 'z'; }
    static boolean digit(char c) { return c >= '0' && c <= '9'; }
    static boolean isWord(String w) { return letter(w.charAt(0)) || digit(w.charAt(0)); }

    int here() { return next < places.size() ? places.get(next) : bytes.length(); }
    Fault fault() { return new Fault(here()); }

    /** The next word or sign, "" at the end; one that is glued to a word is a FAULT wherever it stands. */
    String peek() {
      if (next >= words.size()) return "";
      String w = words.get(next);
      if (next > 0 && isWord(w) && isWord(words.get(next - 1)) && places.get(next - 1) + words.get(next - 1).length() == places.get(next)) throw fault();
      return w;
    }

    int value() {
      key = peek();
      if (!key.equals("gain") && !key.equals("fee") && !key.equals("fine")) throw fault();
      next++;
      int v = or();
      if (!peek().isEmpty()) throw fault();
      return v;
    }

    int or() { int v = and(); while (peek().equals("|")) { next++; int w = and(); v = v != 0 || w != 0 ? 1 : 0; } return v; }

    int and() { int v = test(); while (peek().equals("&")) { next++; int w = test(); v = v != 0 && w != 0 ? 1 : 0; } return v; }

    int test() {
      int v = sum();
      String s = peek();
      if (s.equals("<")) { next++; return v < sum() ? 1 : 0; }
      if (s.equals("=")) { next++; return v == sum() ? 1 : 0; }
      if (s.equals(">")) { next++; return v > sum() ? 1 : 0; }
      return v;
    }

    int sum() {
      int v = term();
      while (true) {
        if (peek().equals("+")) { next++; v += term(); } else if (peek().equals("-")) { next++; v -= term(); } else return v;
      }
    }

    int term() {
      int v = piece();
      while (true) {
        if (peek().equals("*")) { next++; v *= piece(); }
        else if (peek().equals("/")) { next++; int w = piece(); v = w == 0 ? 0 : (int) ((long) v / w); }
        else return v;
      }
    }

    int piece() {
      String w = peek();
      if (w.isEmpty()) throw fault();
      if (digit(w.charAt(0))) {
        if (w.length() > 4) throw fault();
        next++; pieces++;
        return Integer.parseInt(w);
      }
      if (letter(w.charAt(0))) {
        Map<String, String> names = new HashMap<>(Map.of("gain", "t s l", "fee", "n f", "fine", "t s"));
        if (!List.of(names.get(key).split(" ")).contains(w)) throw fault();
        next++; pieces++;
        return name(w.charAt(0));
      }
      if (w.equals("!")) {
        if (nots == 8) throw fault();
        next++; nots++;
        int v = piece();
        nots--;
        return v == 0 ? 1 : 0;
      }
      if (w.equals("(")) {
        if (open == 8) throw fault();
        next++; open++;
        int v = or();
        if (!peek().equals(")")) throw fault();
        next++; open--;
        return v;
      }
      throw fault();
    }

    int name(char c) {
      if (state == null) return 1;
      switch (c) {
        case 't': return stone.trust;
        case 's': return stone.size;
        case 'l': return stone.laid;
        case 'n': return state.tide;
        default: return state.found;
      }
    }
  }

  State now = new State();
  State image;
  final Sheet[] sheets = new Sheet[4];
  final Object[] slots = new Object[5]; // null, a Stone, a Sheet, an Integer
  List<Integer> waiting = new ArrayList<>();
  StringBuilder tape = new StringBuilder();

  @Override public int call(String name, int... a) {
    try { return answer(name, a); } catch (Refused r) { return r.answer; }
  }

  static void bad(boolean isBad) { if (isBad) throw new Refused(BAD); }
  static void in(int v, int least, int most) { bad(v < least || v > most); }

  Stone stone(int k) { in(k, 0, now.stones.size() - 1); return now.stones.get(k); }

  private int answer(String name, int[] a) {
    switch (name) {
      case "rubbing": case "told": case "says": case "as": case "turns": case "set": case "carve": case "carved": case "deal": case "seed": return rubbings(name, a);
      case "falseAt": case "fits": case "join": case "clash": case "undone": case "borne": case "look": return lies(name, a);
      case "tides": case "book": case "behind": case "lasts": case "best": case "taught": case "whose": case "fee": case "fine": return tides(name, a);
      case "feed": case "trim": case "text": case "textTold": case "why": return texts(name, a);
      case "sheet": case "mark": case "pour": case "reads": case "copy": return sheets(name, a);
      case "lay": case "ask": case "item": case "rest": return slots(name, a);
      default: return images(name, a);
    }
  }

  private int rubbings(String name, int[] a) {
    switch (name) {
      case "rubbing":
        in(a[0], 0, 5); in(a[1], 0, 65535); in(a[2], 1, 8);
        if (now.stones.size() == 9) return FULL;
        return come(a[0], a[1], a[2]);
      case "told": {
        Stone s = stone(a[0]);
        in(a[1], 0, 9);
        int covers = 0;
        for (int x : s.covers()) covers += 1 << x;
        return new int[] {s.kind, s.raw, s.size, s.turned, s.laid, s.trust, covers, now.gains(s, s.kind), s.losesAs(s.kind), s.worthAs(s.kind)}[a[1]];
      }
      case "says": { Stone s = stone(a[0]); in(a[1], 0, s.size - 1); return s.says(a[1]); }
      case "as": { Stone s = stone(a[0]); in(a[1], 0, 5); return s.under(a[1]) ? s.size : KIND; }
      case "turns": { Stone s = stone(a[0]); in(a[1], 0, 5); int was = s.kind; s.kind = a[1]; return was; }
      case "set": {
        Stone s = stone(a[0]);
        in(a[1], 1, 5);
        in(a[2], a[1] == 2 ? 1 : 0, new int[] {0, 65535, 8, 1, 16, 99}[a[1]]);
        int was = call("told", a[0], a[1]);
        if (a[1] == 1) s.raw = a[2];
        if (a[1] == 2) s.size = a[2];
        if (a[1] == 3) s.turned = a[2];
        if (a[1] == 4) s.laid = a[2];
        if (a[1] == 5) s.trust = a[2];
        return was;
      }
      case "carve": { in(a[0], 0, 15); in(a[1], 0, 3); int was = now.marks[a[0]]; now.marks[a[0]] = a[1]; return was; }
      case "carved": in(a[0], 0, 15); return now.marks[a[0]];
      case "deal": {
        in(a[0], 1, 9);
        int n = Math.min(a[0], 9 - now.stones.size());
        for (int i = 0; i < n; i++) { int k = now.draw(6), raw = now.draw(65536), size = 1 + now.draw(8); come(k, raw, size); }
        return n;
      }
      default: { int was = now.z; now.z = a[0]; return was; }
    }
  }

  private int come(int kind, int raw, int size) {
    Stone s = new Stone();
    s.kind = kind; s.raw = raw; s.size = size;
    now.stones.add(s);
    return now.stones.size() - 1;
  }

  private int lies(String name, int[] a) {
    switch (name) {
      case "falseAt": { Stone s = stone(a[0]); in(a[1], 0, 15); return now.falseAt(s, a[1]); }
      case "fits": {
        Stone s = stone(a[0]);
        in(a[1], 0, 1);
        int at = -1;
        for (int x = 16 - s.size; x >= 0; x--) if (at < 0 || now.falseAt(s, x) <= now.falseAt(s, at)) at = x;
        return a[1] == 0 ? at : now.falseAt(s, at);
      }
      case "join": {
        Stone s = stone(a[0]), t = stone(a[1]);
        bad(a[0] == a[1]); in(a[2], 0, 1);
        int best = Integer.MIN_VALUE, at = -1;
        for (int d = s.size - 1; d >= 0; d--) {
          int sum = 0;
          for (int q = 0; q < t.size; q++) if (q + d < s.size) sum += s.says(q + d) == t.says(q) ? 1 : -2;
          if (sum >= best) { best = sum; at = d; }
        }
        return a[2] == 0 ? at : best;
      }
      case "clash": stone(a[0]); stone(a[1]); bad(a[0] == a[1]); return now.clash(a[0], a[1]) ? 1 : 0;
      case "undone": case "borne": {
        int laid = now.laid(), best = laid;
        for (int set = 511; set >= 0; set--) {
          if ((set | laid) != laid || Integer.bitCount(set) > Integer.bitCount(best)) continue;
          if (name.equals("undone") ? quiet(laid - set) : now.covered(set) == now.covered(laid)) best = set;
        }
        return best;
      }
      default: {
        in(a[0], 0, 1);
        int most = -1, at = -1;
        for (int x = 15; x >= 0; x--) {
          int n = 0;
          for (Stone s : now.stones) if (s.covers().contains(x) && s.says(x - s.laid) != now.marks[x]) n++;
          if (n >= most) { most = n; at = x; }
        }
        return a[0] == 0 ? at : most;
      }
    }
  }

  private boolean quiet(int set) {
    for (int a = 0; a < 9; a++) for (int b = 0; b < a; b++) if ((set >> a & set >> b & 1) == 1 && now.clash(a, b)) return false;
    return true;
  }

  private State behind(State from, int n) {
    State s = from.again();
    for (int i = 0; i < n; i++) s.tide();
    return s;
  }

  private int tides(String name, int[] a) {
    switch (name) {
      case "tides": {
        in(a[0], 1, 100);
        int was = now.found;
        for (int i = 0; i < a[0]; i++) if (now.tide < 9999) now.tide();
        return now.found - was;
      }
      case "book":
        in(a[0], 0, 3);
        return new int[] {now.found, now.trust(), now.laid(), 65535 - now.covered(511)}[a[0]];
      case "behind": {
        in(a[0], 0, 100); bad(a[1] < 0 || a[1] - 3 >= now.stones.size());
        State s = behind(now, a[0]);
        return a[1] == 0 ? s.trust() : a[1] == 1 ? s.laid() : a[1] == 2 ? s.found : s.stones.get(a[1] - 3).trust;
      }
      case "lasts": {
        State s = now.again();
        for (int n = 0; n <= 300; n++, s.tide()) if (s.laid() == 0) return n;
        return NONE;
      }
      case "best": {
        stone(a[0]); in(a[1], 1, 60); in(a[2], 0, 1);
        int best = -1, at = -1;
        for (int x = 15; x >= 0; x--) {
          State s = now.again();
          s.stones.get(a[0]).laid = x;
          int t = behind(s, a[1]).stones.get(a[0]).trust;
          if (t >= best) { best = t; at = x; }
        }
        return a[2] == 0 ? at : best;
      }
      case "taught": {
        in(a[0], 1, 60); in(a[1], 0, 1);
        int best = -1, at = -1;
        for (int x = 15; x >= 0; x--) {
          State s = now.again();
          s.marks[x] = s.marks[x] == 3 ? 0 : s.marks[x] + 1;
          int t = behind(s, a[0]).trust();
          if (t >= best) { best = t; at = x; }
        }
        return a[1] == 0 ? at : best;
      }
      case "whose": {
        in(a[0], 0, 3); in(a[1], 0, 1);
        Sheet h = there(a[0]);
        if (now.stones.isEmpty()) return NONE;
        int best = Integer.MAX_VALUE, at = -1;
        for (int k = now.stones.size() - 1; k >= 0; k--) {
          Stone s = now.stones.get(k);
          int sum = 0;
          for (int p = 0; p < h.row.size(); p++) if (h.row.get(p) != null) sum += Math.abs(h.row.get(p) - (p < s.size ? s.says(p) : 0));
          if (sum <= best) { best = sum; at = k; }
        }
        return a[1] == 0 ? at : best;
      }
      case "fee": { int t = now.counts("fee"); return t < 0 ? now.found : new Grammar(now.texts.get(t), now, null).value(); }
      default: { Stone s = stone(a[0]); int t = now.counts("fine"); return t < 0 ? s.trust : new Grammar(now.texts.get(t), now, s).value(); }
    }
  }

  private int texts(String name, int[] a) {
    switch (name) {
      case "feed":
        if (tape.length() + 12 > 96) return FULL;
        for (int v : a) for (int i = 3; i >= 0; i--) tape.append((char) (v >> 8 * i & 255));
        return tape.length();
      case "trim": in(a[0], 0, tape.length()); tape.setLength(a[0]); return a[0];
      case "text": {
        String bytes = tape.toString();
        tape.setLength(0);
        try { new Grammar(bytes, null, null).value(); } catch (Grammar.Fault f) { return -100 - f.place; }
        if (now.texts.size() == 14) return FULL;
        now.texts.add(bytes);
        return now.texts.size() - 1;
      }
      case "textTold": {
        in(a[0], 0, now.texts.size() - 1); in(a[1], 0, 1);
        Grammar g = new Grammar(now.texts.get(a[0]), null, null);
        g.value();
        return a[1] == 1 ? g.pieces : List.of("gain", "fee", "fine").indexOf(g.key);
      }
      default: { in(a[0], 0, 2); int t = now.counts(List.of("gain", "fee", "fine").get(a[0])); return t < 0 ? NONE : t; }
    }
  }

  private Sheet there(int k) {
    in(k, 0, 3);
    if (sheets[k] == null) throw new Refused(NOTHING);
    return sheets[k];
  }

  private int sheets(String name, int[] a) {
    switch (name) {
      case "sheet": {
        in(a[0], 0, 3); in(a[1], -1, 1);
        if (a[1] == -1) { sheets[a[0]] = null; return 0; }
        bad(a[2] > 24);
        if (a[2] < 0) return SIZE;
        Sheet s = new Sheet();
        s.floats = a[1] == 1;
        for (int i = 0; i < a[2]; i++) s.row.add(0);
        sheets[a[0]] = s;
        return a[2];
      }
      case "mark": {
        Sheet s = there(a[0]);
        if (a[1] < 0 || a[1] >= s.row.size()) return INDEX;
        if (!s.floats && a[2] == NONE) return KIND;
        if (!s.floats) { int low = a[2] & 0xffff; s.row.set(a[1], low > 32767 ? low - 65536 : low); return 1; }
        if (a[2] == NONE) { s.row.set(a[1], null); return 1; }
        in(a[2], -99999, 99999);
        s.row.set(a[1], a[2]);
        return 1;
      }
      case "pour": {
        Sheet s = there(a[0]);
        int n = 0;
        for (int x = 0; x < 16 && x < s.row.size(); x++) {
          if (s.row.get(x) == null) continue;
          int m = s.row.get(x) < 0 ? 0 : s.row.get(x) > 3 ? 3 : s.row.get(x);
          if (m != now.marks[x]) n++;
          now.marks[x] = m;
        }
        return n;
      }
      case "reads": {
        Sheet s = there(a[0]);
        for (int k = 0; k < s.row.size(); k++) {
          if (s.row.get(k) == null) continue;
          if (k >= now.stones.size() || now.stones.get(k).trust != s.row.get(k)) return k;
        }
        return NONE;
      }
      default: {
        in(a[0], 0, 3); in(a[2], 0, 3);
        Sheet from = there(a[0]), to = there(a[2]);
        if (from.floats != to.floats) return KIND;
        if (a[1] < 0 || a[3] < 0 || a[4] < 0 || (long) a[1] + a[4] > from.row.size() || (long) a[3] + a[4] > to.row.size()) return INDEX;
        List<Integer> was = new ArrayList<>(from.row.subList(a[1], a[1] + a[4]));
        for (int i = 0; i < a[4]; i++) to.row.set(a[3] + i, was.get(i));
        return a[4];
      }
    }
  }

  private int slots(String name, int[] a) {
    in(a[0], 0, 4);
    Object held = slots[a[0]];
    switch (name) {
      case "lay": {
        in(a[1], 0, 3);
        Object thing = null;
        if (a[1] == 1) thing = stone(a[2]).again();
        if (a[1] == 2) thing = there(a[2]).again();
        if (a[1] == 3) thing = a[2];
        slots[a[0]] = thing;
        return held == null ? 0 : held instanceof Stone ? 1 : held instanceof Sheet ? 2 : 3;
      }
      case "ask":
        in(a[1], 0, 5);
        if (held == null) return NOTHING;
        if (!(held instanceof Stone) || !((Stone) held).under(a[1])) return KIND;
        return ((Stone) held).worthAs(((Stone) held).kind);
      case "item": {
        if (held == null) return NOTHING;
        if (!(held instanceof Sheet)) return KIND;
        Sheet s = (Sheet) held;
        if (a[1] < 0 || a[1] >= s.row.size()) return INDEX;
        return s.row.get(a[1]) == null ? KIND : s.row.get(a[1]);
      }
      default:
        if (held == null) return NOTHING;
        if (!(held instanceof Integer)) return KIND;
        if (a[1] == 0) return NO;
        return (int) ((long) (Integer) held % a[1]);
    }
  }

  private int images(String name, int[] a) {
    switch (name) {
      case "tell": if (waiting.size() == 60) return FULL; waiting.add(a[0]); return waiting.size();
      case "check": {
        List<Integer> got = waiting;
        waiting = new ArrayList<>();
        in(a[0], 1, 30);
        if (image == null) return NO;
        List<Integer> due = new ArrayList<>();
        State s = image.again();
        for (int i = 0; i < a[0] && s.tide < 9999; i++) { s.tide(); due.add(s.trust()); due.add(Integer.bitCount(s.laid())); }
        if (got.equals(due)) return 0;
        int right = 0;
        while (right < got.size() && right < due.size() && got.get(right).equals(due.get(right))) right++;
        return 1 + right;
      }
      case "keep": image = now.again(); return now.stones.size();
      case "back": if (image == null) return NO; now = image.again(); return now.stones.size();
      case "count":
        in(a[0], 0, 6);
        return new int[] {now.stones.size(), now.tide, Integer.bitCount(now.laid()), now.texts.size(), waiting.size(), tape.length(), now.z}[a[0]];
      default: throw new IllegalArgumentException(name);
    }
  }
}
