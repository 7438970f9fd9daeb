import java.util.*;

/**
 * Runs random calls on TwinTrees and on a second, slow reading of the document (sets, lists, exceptions),
 * and prints every answer that differs. Arguments: how many runs, the first seed.
 */
public final class OracleTest {
  static final int NONE = -1;

  // ---------- the second reading: GRAMMAR and all that is so ----------
  static final class Rule {
    final int kind; final List<Integer> body;
    Rule(int kind, List<Integer> body) { this.kind = kind; this.body = List.copyOf(body); }
  }
  static final class State {
    List<String> signs = new ArrayList<>(), kinds = new ArrayList<>();
    List<Rule> rules = new ArrayList<>();
    List<Set<Integer>> merged = new ArrayList<>();
    int depth = 0;
    State copy() {
      State s = new State();
      s.signs = new ArrayList<>(signs); s.kinds = new ArrayList<>(kinds); s.rules = new ArrayList<>(rules);
      for (Set<Integer> m : merged) s.merged.add(new TreeSet<>(m));
      s.depth = depth; return s;
    }
    List<int[]> items() {
      List<int[]> l = new ArrayList<>(); l.add(new int[] {-1, -1}); l.add(new int[] {-1, -1});
      for (int r = 0; r < rules.size(); r++) for (int d = 0; d <= rules.get(r).body.size(); d++) l.add(new int[] {r, d});
      return l;
    }
    int next(int i) {
      if (i == 0) return kinds.isEmpty() ? NONE : 8;
      if (i == 1) return NONE;
      int[] it = items().get(i); List<Integer> b = rules.get(it[0]).body;
      return it[1] < b.size() ? b.get(it[1]) : NONE;
    }
    int kindOf(int i) { return i < 2 ? NONE : rules.get(items().get(i)[0]).kind; }
    Set<Integer> classOf(int i) { for (Set<Integer> m : merged) if (m.contains(i)) return m; return new TreeSet<>(List.of(i)); }
    int cls(int i) { return Collections.min(classOf(i)); }
    int classes() { Set<Integer> s = new HashSet<>(); for (int i = 0; i < items().size(); i++) s.add(cls(i)); return s.size(); }
    int merge(int i, int j) {
      int n = items().size();
      if (i < 2 || j < 2 || i >= n || j >= n) return NONE;
      if (cls(i) == cls(j)) return 1;
      Set<Integer> a = classOf(i), b = classOf(j), u = new TreeSet<>(a); u.addAll(b);
      merged.remove(a); merged.remove(b); merged.add(u); return 0;
    }
    int depth(int d) { if (d < 0 || d > 1) return NONE; if (d == depth) return 1; depth = d; return 0; }
    int drop(int r) { if (r < 0 || r >= rules.size()) return NONE; rules.remove(r); merged.clear(); return 0; }
    boolean symbol(int s) { return s >= 0 && s < signs.size() || s >= 8 && s < 8 + kinds.size(); }
    int add(int k, List<Integer> body) {
      if (k < 0 || k >= kinds.size() || body.size() > 3) return NONE;
      for (int s : body) if (!symbol(s)) return NONE;
      if (rules.size() == 10) return 1;
      rules.add(new Rule(k, body)); merged.clear(); return 0;
    }
  }

  // ---------- PLACES ----------
  record Place(int cls, int caller) {}
  record Step(int code, int to) {}
  static final class Auto {
    List<Place> places = new ArrayList<>(); List<TreeSet<Step>> steps = new ArrayList<>();
    boolean canBe(State s, int i, int j) { return i >= 2 && s.next(j) >= 8 && s.next(j) - 8 == s.kindOf(i); }
    Auto(State s) {
      int n = s.items().size();
      TreeSet<Place> set = new TreeSet<>(Comparator.comparingInt(Place::cls).thenComparingInt(Place::caller));
      set.add(new Place(0, -1)); set.add(new Place(1, -1));
      for (int i = 2; i < n; i++) {
        if (s.depth == 0) set.add(new Place(s.cls(i), -1));
        else for (int j = 0; j < n; j++) if (canBe(s, i, j)) set.add(new Place(s.cls(i), s.cls(j)));
      }
      places.addAll(set);
      if (places.size() > 80) return;
      for (Place p : places) {
        TreeSet<Step> st = new TreeSet<>(Comparator.comparingInt(Step::code).thenComparingInt(Step::to));
        steps.add(st);
        for (int i = 0; i < n; i++) {
          if (s.cls(i) != p.cls || i == 1) continue;
          if (i == 0 || s.depth == 0) stepsOf(s, st, i, p, -1);
          else for (int j = 0; j < n; j++) if (s.cls(j) == p.caller && canBe(s, i, j)) stepsOf(s, st, i, p, j);
        }
      }
    }
    int at(State s, int item, int callerClass) { return places.indexOf(new Place(s.cls(item), s.depth == 0 || item < 2 ? -1 : callerClass)); }
    void stepsOf(State s, Set<Step> st, int i, Place p, int j) {
      int nx = s.next(i), n = s.items().size();
      if (nx >= 8) {
        for (int f = 2; f < n; f++) if (s.items().get(f)[1] == 0 && s.kindOf(f) == nx - 8) st.add(new Step(16 + s.items().get(f)[0], at(s, f, s.cls(i))));
      } else if (nx >= 0) st.add(new Step(nx, at(s, i + 1, p.caller)));
      else if (i >= 2) {
        int code = 32 + s.items().get(i)[0];
        for (int c = 0; c < n; c++) {
          if (!canBe(s, i, c) || s.depth == 1 && c != j) continue;
          if (c == 0) st.add(new Step(code, 1));
          else if (s.depth == 0) st.add(new Step(code, at(s, c + 1, -1)));
          else for (int m = 0; m < n; m++) if (canBe(s, c, m)) st.add(new Step(code, at(s, c + 1, s.cls(m))));
        }
      }
    }
  }

  // ---------- TWINS ----------
  record Twin(int p, int q, int stage) {}
  static final class Follow {
    Map<Twin, Integer> dist = new HashMap<>(); Map<Twin, List<Twin>> before = new HashMap<>(); Set<Twin> suspects = new HashSet<>();
    static final Twin MEET = new Twin(1, 1, 1);
    Follow(Auto a) {
      ArrayDeque<Twin> todo = new ArrayDeque<>(); Map<Twin, Integer> sure = new HashMap<>();
      todo.add(new Twin(0, 0, 0)); dist.put(new Twin(0, 0, 0), 0);
      while (!todo.isEmpty()) {
        Twin t = todo.pollFirst(); int d = dist.get(t);
        if (sure.containsKey(t)) continue;
        sure.put(t, d);
        for (Map.Entry<Twin, Integer> e : moves(a, t)) {
          Twin u = e.getKey(); before.computeIfAbsent(u, x -> new ArrayList<>()).add(t);
          int nd = d + e.getValue();
          if (!dist.containsKey(u) || dist.get(u) > nd) { dist.put(u, nd); if (e.getValue() == 0) todo.addFirst(u); else todo.addLast(u); }
        }
      }
      if (dist.containsKey(MEET)) {
        ArrayDeque<Twin> back = new ArrayDeque<>(); back.add(MEET); Set<Twin> seen = new HashSet<>(back);
        while (!back.isEmpty()) { Twin t = back.poll(); if (t.stage > 0) suspects.add(t); for (Twin u : before.getOrDefault(t, List.of())) if (seen.add(u)) back.add(u); }
      }
    }
    static boolean sign(Auto a, int p) { return !a.steps.get(p).isEmpty() && a.steps.get(p).first().code < 16; }
    static List<Map.Entry<Twin, Integer>> moves(Auto a, Twin t) {
      List<Map.Entry<Twin, Integer>> l = new ArrayList<>();
      Set<Step> P = a.steps.get(t.p), Q = a.steps.get(t.q);
      for (Step x : P) for (Step y : Q) {
        boolean like = x.code == y.code, xs = x.code < 16, ys = y.code < 16;
        if (t.stage == 0 && like) l.add(Map.entry(new Twin(x.to, y.to, 0), xs ? 1 : 0));
        if (t.stage == 0 && !like && !xs && !ys) l.add(Map.entry(new Twin(x.to, y.to, 1), 0));
        if (t.stage > 0 && like && xs) l.add(Map.entry(new Twin(x.to, y.to, 1), 1));
      }
      for (Step x : P) if (x.code >= 16) {
        if (t.stage == 0 && t.q == 1) l.add(Map.entry(new Twin(x.to, t.q, 1), 0));
        if (t.stage == 0 && sign(a, t.q)) l.add(Map.entry(new Twin(x.to, t.q, 2), 0));
        if (t.stage == 1 || t.stage == 2) l.add(Map.entry(new Twin(x.to, t.q, t.stage), 0));
      }
      for (Step y : Q) if (y.code >= 16) {
        if (t.stage == 0 && t.p == 1) l.add(Map.entry(new Twin(t.p, y.to, 1), 0));
        if (t.stage == 0 && sign(a, t.p)) l.add(Map.entry(new Twin(t.p, y.to, 3), 0));
        if (t.stage == 1 || t.stage == 3) l.add(Map.entry(new Twin(t.p, y.to, t.stage), 0));
      }
      return l;
    }
    List<Twin> ordered() {
      List<Twin> l = new ArrayList<>(suspects);
      l.sort(Comparator.comparingInt(Twin::p).thenComparingInt(Twin::q).thenComparingInt(Twin::stage)); return l;
    }
  }

  // ---------- TREES: every one of them made, the first CAP in order ----------
  static final int CAP = 150;
  static final class Tree {
    final int rule; final List<Tree> below; final long size;
    Tree(int rule, List<Tree> below) { this.rule = rule; this.below = below; long n = 1; for (Tree t : below) n += t.size; size = Math.min(n, 1000000000L); }
    void walk(List<Integer> out) { out.add(rule); for (Tree t : below) t.walk(out); }
  }
  static final class Trees {
    final State s; final int[] row; final int cap; final Map<String, List<Tree>> memo = new HashMap<>();
    Trees(State s, int[] row, int cap) { this.s = s; this.row = row; this.cap = cap; }
    List<Tree> all() { return of(0, 0, row.length, new int[5]); }
    List<Tree> of(int kind, int i, int j, int[] above) {
      if (above[kind] == 2) return List.of();
      String key = kind + " " + i + " " + j + Arrays.toString(above);
      List<Tree> got = memo.get(key);
      if (got != null) return got;
      int[] now = above.clone(); now[kind]++;
      List<Tree> out = new ArrayList<>();
      for (int r = 0; r < s.rules.size() && out.size() < cap; r++) if (s.rules.get(r).kind == kind) {
        for (List<List<Tree>> split : splits(s.rules.get(r).body, 0, i, j, i, j, now)) {
          product(r, split, 0, new ArrayList<>(), out);
          if (out.size() >= cap) break;
        }
      }
      memo.put(key, out);
      return out;
    }
    List<List<List<Tree>>> splits(List<Integer> body, int t, int at, int end, int i, int j, int[] now) {
      List<List<List<Tree>>> out = new ArrayList<>();
      if (t == body.size()) { if (at == end) out.add(List.of()); return out; }
      int sym = body.get(t);
      for (int e = at; e <= end; e++) {
        List<List<List<Tree>>> rest;
        if (sym < 8) {
          if (e != at + 1 || row[at] != sym) continue;
          rest = splits(body, t + 1, e, end, i, j, now);
          out.addAll(rest);
        } else {
          rest = splits(body, t + 1, e, end, i, j, now);
          if (rest.isEmpty()) continue;
          List<Tree> mine = of(sym - 8, at, e, at == i && e == j ? now : new int[5]);
          if (mine.isEmpty()) continue;
          for (List<List<Tree>> r : rest) { List<List<Tree>> l = new ArrayList<>(); l.add(mine); l.addAll(r); out.add(l); }
        }
      }
      return out;
    }
    void product(int r, List<List<Tree>> split, int t, List<Tree> chosen, List<Tree> out) {
      if (out.size() >= cap) return;
      if (t == split.size()) { out.add(new Tree(r, new ArrayList<>(chosen))); return; }
      for (Tree x : split.get(t)) { chosen.add(x); product(r, split, t + 1, chosen, out); chosen.remove(chosen.size() - 1); if (out.size() >= cap) return; }
    }
  }

  // ---------- KINDS ----------
  static final class Facts {
    final State s; final Set<Integer> empty = new HashSet<>(), ended = new HashSet<>(), made = new HashSet<>(), used = new HashSet<>();
    final Map<Integer, Set<Integer>> begins = new HashMap<>(), follows = new HashMap<>(); final Set<Integer> endless = new HashSet<>();
    Facts(State s) {
      this.s = s;
      for (int n = 0; n < 9; n++) for (Rule r : s.rules) {
        if (r.body.stream().allMatch(x -> x >= 8 && empty.contains(x - 8))) empty.add(r.kind);
        if (r.body.stream().allMatch(x -> x < 8 || ended.contains(x - 8))) ended.add(r.kind);
      }
      if (s.kinds.isEmpty()) return;
      made.add(0); if (ended.contains(0)) used.add(0);
      for (int n = 0; n < 9; n++) for (Rule r : s.rules) {
        boolean fine = r.body.stream().allMatch(x -> x < 8 || ended.contains(x - 8));
        for (int x : r.body) if (x >= 8) { if (made.contains(r.kind)) made.add(x - 8); if (fine && used.contains(r.kind)) used.add(x - 8); }
      }
      for (int k = 0; k < s.kinds.size(); k++) {
        Set<Integer> b = new TreeSet<>();
        for (List<Integer> f : forms(List.of(8 + k), 4, false)) if (!f.isEmpty() && f.get(0) < 8) b.add(f.get(0));
        begins.put(k, b); follows.put(k, new TreeSet<>());
        for (int t : itselfFrom(k)) if (t == k) endless.add(k);
      }
      for (List<Integer> f : forms(List.of(8), 5, true)) for (int t = 0; t + 1 < f.size(); t++)
        if (f.get(t) >= 8 && f.get(t + 1) < 8) follows.get(f.get(t) - 8).add(f.get(t + 1));
    }
    /** What RULES make of a form, cut to its first ones (or to any that are side by side). */
    Set<List<Integer>> forms(List<Integer> from, int most, boolean anywhere) {
      Set<List<Integer>> seen = new HashSet<>(); ArrayDeque<List<Integer>> todo = new ArrayDeque<>(); todo.add(from); seen.add(from);
      while (!todo.isEmpty()) {
        List<Integer> f = todo.poll();
        for (int t = 0; t < f.size(); t++) {
          if (f.get(t) < 8) continue;
          if (empty.contains(f.get(t) - 8)) { List<Integer> g = new ArrayList<>(f); g.remove(t); cuts(g, most, anywhere, seen, todo); }
          for (Rule r : s.rules) if (r.kind == f.get(t) - 8) {
            List<Integer> g = new ArrayList<>(f.subList(0, t)); g.addAll(r.body); g.addAll(f.subList(t + 1, f.size()));
            cuts(g, most, anywhere, seen, todo);
          }
        }
      }
      return seen;
    }
    void cuts(List<Integer> g, int most, boolean anywhere, Set<List<Integer>> seen, Deque<List<Integer>> todo) {
      for (int a = 0; a == 0 || anywhere && a + most <= g.size(); a++) {
        List<Integer> c = List.copyOf(g.subList(a, Math.min(g.size(), a + most)));
        if (seen.add(c)) todo.add(c);
      }
    }
    Set<Integer> itselfFrom(int k) {
      Set<Integer> seen = new HashSet<>(); ArrayDeque<Integer> todo = new ArrayDeque<>(); todo.add(k);
      while (!todo.isEmpty()) {
        int x = todo.poll();
        for (Rule r : s.rules) if (r.kind == x) for (int t = 0; t < r.body.size(); t++) {
          boolean rest = r.body.get(t) >= 8;
          for (int u = 0; u < r.body.size(); u++) if (u != t) rest &= r.body.get(u) >= 8 && empty.contains(r.body.get(u) - 8);
          if (rest && seen.add(r.body.get(t) - 8)) todo.add(r.body.get(t) - 8);
        }
      }
      return seen;
    }
    static int bits(Set<Integer> s) { int b = 0; for (int x : s) b |= 1 << x; return b; }
  }

  // ---------- texts ----------
  static final class Fault extends RuntimeException { final int why, at; Fault(int why, int at) { this.why = why; this.at = at; } }
  static final Set<String> RESERVED = Set.of("sign", "kind", "rule", "drop", "merge", "depth", "or", "and", "not", "first", "last", "alone", "of", "next", "dot", "number");
  interface Cond { boolean of(State s, int i); }
  static final class Text {
    final List<String> tok = new ArrayList<>(); final List<Integer> at = new ArrayList<>(); int k = 0, ones = 0; final String whole;
    /** "" is the end, "?" what is no TOKEN. */
    Text(String s, int most) {
      whole = s;
      java.util.regex.Matcher m = java.util.regex.Pattern.compile("[a-z0-9]+|[^ \n]", java.util.regex.Pattern.DOTALL).matcher(s);
      while (m.find()) {
        if (m.start() >= most) break;
        String t = m.group();
        boolean good = t.matches("[a-z]{1,7}|[0-9]{1,3}|[;<=>()]");
        tok.add(good ? t : "?"); at.add(m.start());
      }
      tok.add(s.length() > most ? "?" : ""); at.add(Math.min(s.length(), most));
    }
    String peek() { return tok.get(k); }
    Fault fault(int why) { return new Fault(why, at.get(k)); }
    void want(String t) { if (!peek().equals(t)) throw fault(1); k++; }
    boolean nameLike() { return peek().matches("[a-z]+") && !RESERVED.contains(peek()); }
    int number(int lo, int hi) { if (!peek().matches("[0-9]+")) throw fault(1); int v = Integer.parseInt(peek()); if (v < lo || v > hi) throw fault(2); k++; return v; }
    /** 1: any SYMBOL; 2: a KIND. */
    int name(State s, int sort) {
      if (!nameLike()) throw fault(1);
      int c = s.signs.indexOf(peek());
      if (c < 0 && s.kinds.contains(peek())) c = 8 + s.kinds.indexOf(peek());
      if (c < 0 || sort == 2 && c < 8) throw fault(3);
      return c;
    }
    Rule rule(State s) {
      want("rule"); int kind = name(s, 2) - 8; k++;
      List<Integer> body = new ArrayList<>();
      while (!peek().equals(";")) { int c = name(s, 1); if (body.size() == 3) throw fault(4); body.add(c); k++; }
      k++; return new Rule(kind, body);
    }
    int grammar(State s) {
      int lines = 0;
      for (; !peek().isEmpty(); lines++) {
        String w = peek();
        if (w.equals("rule")) { if (s.rules.size() == 10) throw fault(4); s.rules.add(rule(s)); continue; }
        if (!w.equals("sign") && !w.equals("kind")) throw fault(1);
        List<String> l = w.equals("sign") ? s.signs : s.kinds;
        if (l.size() == (w.equals("sign") ? 4 : 5)) throw fault(4);
        k++; if (!nameLike()) throw fault(1);
        String name = peek(); if (s.signs.contains(name) || s.kinds.contains(name)) throw fault(3);
        k++; want(";"); l.add(name);
      }
      return lines;
    }
    List<Object[]> book(State s) {
      List<Object[]> l = new ArrayList<>();
      while (!peek().isEmpty()) {
        String w = peek();
        if (!Set.of("rule", "drop", "merge", "depth").contains(w)) throw fault(1);
        if (l.size() == 40) throw fault(4);
        if (w.equals("rule")) { Rule r = rule(s); l.add(new Object[] {w, r.kind, r.body}); continue; }
        k++;
        if (w.equals("merge")) { int a = number(2, 41); int b = number(2, 41); want(";"); l.add(new Object[] {w, a, b}); }
        else { int a = number(0, w.equals("drop") ? 9 : 1); want(";"); l.add(new Object[] {w, a}); }
      }
      return l;
    }
    Cond sentence(State s) { Cond c = cond(s, 1); if (!peek().isEmpty()) throw fault(1); return c; }
    Cond cond(State s, int in) { Cond c = allOf(s, in); while (peek().equals("or")) { k++; Cond a = c, b = allOf(s, in); c = (x, i) -> a.of(x, i) | b.of(x, i); } return c; }
    Cond allOf(State s, int in) { Cond c = one(s, in); while (peek().equals("and")) { k++; Cond a = c, b = one(s, in); c = (x, i) -> a.of(x, i) & b.of(x, i); } return c; }
    Cond one(State s, int in) {
      String w = peek();
      if (!Set.of("(", "not", "first", "last", "alone", "of", "next", "rule", "dot", "number").contains(w)) throw fault(1);
      if (ones == 20 || in == 9) throw fault(4);
      ones++; k++;
      switch (w) {
        case "(": { Cond c = cond(s, in + 1); want(")"); return c; }
        case "not": { Cond c = one(s, in + 1); return (x, i) -> !c.of(x, i); }
        case "first": return (x, i) -> x.items().get(i)[1] == 0;
        case "last": return (x, i) -> x.items().get(i)[1] == x.rules.get(x.items().get(i)[0]).body.size();
        case "alone": return (x, i) -> x.classOf(i).size() == 1;
        case "of": { int c = name(s, 2) - 8; k++; return (x, i) -> x.kindOf(i) == c; }
        case "next": { int c = name(s, 1); k++; return (x, i) -> x.next(i) == c; }
        default: {
          String sg = peek(); if (!Set.of("<", "=", ">").contains(sg)) throw fault(1);
          k++; int n = number(0, 999);
          return (x, i) -> {
            int v = w.equals("rule") ? x.items().get(i)[0] : w.equals("dot") ? x.items().get(i)[1] : i;
            return sg.equals("<") ? v < n : sg.equals("=") ? v == n : v > n;
          };
        }
      }
    }
  }

  // ---------- the whole second reading ----------
  static final class Slow {
    State s = new State(); Cond cond; StringBuilder tape = new StringBuilder(); int fault = 0;
    ArrayDeque<State> past = new ArrayDeque<>(); State[] img = new State[2]; Cond[] imgCond = new Cond[2];
    int[] row; List<Integer> tree = List.of(); int[] wit = {}; String tag = ""; int[] told;
    State autoOf; Auto auto; Follow follow;
    String take() { String t = tape.toString(); tape.setLength(0); return t; }
    void push(State before) { past.addLast(before); if (past.size() > 8) past.removeFirst(); }
    Auto auto() { auto = new Auto(s); return auto; }
    boolean tooMany() { return auto().places.size() > 80; }
    int feed(int... v) {
      if (tape.length() + 20 > 940) return NONE;
      for (int x : v) for (int h = 24; h >= 0; h -= 8) tape.append((char) (x >>> h & 255));
      return tape.length();
    }
    int end(int n) { if (n < 0 || n > tape.length()) return 0; tape.setLength(n); return 1; }
    int grammar() {
      State t = new State();
      try { fault = 0; int n = new Text(take(), 900).grammar(t); s = t; cond = null; past.clear(); return n; }
      catch (Fault f) { fault = f.why; return -1 - f.at; }
    }
    int rule(int r, int w) {
      if (r < 0 || r >= s.rules.size()) return NONE;
      Rule x = s.rules.get(r);
      if (w == 0) return x.kind; if (w == 1) return x.body.size();
      if (w >= 2 && w <= 4) return w - 2 < x.body.size() ? x.body.get(w - 2) : NONE;
      if (w == 5) for (int i = 2; ; i++) if (s.items().get(i)[0] == r) return i;
      return NONE;
    }
    int kind(int k, int w) {
      if (k < 0 || k >= s.kinds.size() || w < 0 || w > 5) return NONE;
      if (w == 0) { int b = 0; for (int r = 0; r < s.rules.size(); r++) if (s.rules.get(r).kind == k) b += 1 << r; return b; }
      Facts f = new Facts(s);
      return w == 1 ? (f.empty.contains(k) ? 1 : 0) : w == 2 ? Facts.bits(f.begins.get(k)) : w == 3 ? Facts.bits(f.follows.get(k))
          : w == 4 ? (f.endless.contains(k) ? 1 : 0) : (f.used.contains(k) ? 1 : 0);
    }
    int item(int i, int w) {
      if (i < 0 || i >= s.items().size()) return NONE;
      return w == 0 ? s.items().get(i)[0] : w == 1 ? s.items().get(i)[1] : w == 2 ? s.next(i) : w == 3 ? s.cls(i) : w == 4 ? s.classOf(i).size() : NONE;
    }
    int place(int p, int w) {
      if (tooMany() || p < 0 || p >= auto.places.size()) return NONE;
      if (w == 0) return auto.places.get(p).cls; if (w == 1) return auto.places.get(p).caller; if (w == 2) return auto.steps.get(p).size();
      if (w != 3) return NONE;
      int n = 0; for (Set<Step> st : auto.steps) if (st.stream().anyMatch(x -> x.to == p)) n++; return n;
    }
    int step(int p, int k, int w) {
      if (tooMany() || p < 0 || p >= auto.places.size() || k < 0 || k >= auto.steps.get(p).size() || w < 0 || w > 1) return NONE;
      Step x = new ArrayList<>(auto.steps.get(p)).get(k); return w == 0 ? x.code : x.to;
    }
    int deed(java.util.function.ToIntFunction<State> f) { State before = s.copy(); int a = f.applyAsInt(s); if (a == 0) push(before); return a; }
    int add(int k) { List<Integer> b = new ArrayList<>(); for (char c : take().toCharArray()) b.add((int) c); return deed(x -> x.add(k, b)); }
    int undo() { if (past.isEmpty()) return NONE; s = past.removeLast(); return past.size(); }
    Follow follow() { if (tooMany()) return null; return new Follow(auto); }
    int twins(int st) { Follow f = follow(); if (f == null || st < 0 || st > 3) return NONE; return (int) f.dist.keySet().stream().filter(t -> t.stage == st).count(); }
    int twin(int p, int q, int st) {
      Follow f = follow(); if (f == null) return NONE; int n = auto.places.size();
      if (st < 0 || st > 3 || p < 0 || q < 0 || p >= n || q >= n) return NONE;
      Twin t = new Twin(p, q, st); return f.suspects.contains(t) ? 2 : f.dist.containsKey(t) ? 1 : 0;
    }
    int suspects(int st) { Follow f = follow(); if (f == null || st < 1 || st > 3) return NONE; return (int) f.suspects.stream().filter(t -> t.stage == st).count(); }
    int suspectAt(int k, int w) {
      Follow f = follow(); if (f == null || k < 0 || k >= f.suspects.size() || w < 0 || w > 2) return NONE;
      Twin t = f.ordered().get(k); return w == 0 ? t.p : w == 1 ? t.q : t.stage;
    }
    int proven() { Follow f = follow(); return f == null ? NONE : f.dist.containsKey(Follow.MEET) ? 0 : 1; }
    int shadow() { Follow f = follow(); return f == null ? NONE : f.dist.getOrDefault(Follow.MEET, NONE); }
    /** How many TREES, or -2 less CAP: at least CAP. */
    int trees() {
      String t = take();
      if (s.kinds.isEmpty() || t.length() > 8) return NONE;
      for (char c : t.toCharArray()) if (c >= s.signs.size()) return NONE;
      row = new int[t.length()]; for (int i = 0; i < row.length; i++) row[i] = t.charAt(i);
      int n = new Trees(s, row, CAP).all().size(); return n < CAP ? n : -2 - CAP;
    }
    int tree(int k) {
      if (row == null || k < 0 || s.kinds.isEmpty()) return NONE;
      List<Tree> l = new Trees(s, row, CAP).all();
      if (k >= CAP) return l.size() < CAP ? NONE : -3;
      if (k >= l.size() || l.get(k).size > 600) return NONE;
      List<Integer> out = new ArrayList<>(); l.get(k).walk(out); tree = out; return out.size();
    }
    int treeAt(int i) { return i >= 0 && i < tree.size() ? tree.get(i) : NONE; }
    int witness(int n) {
      if (n < 0 || n > 5 || s.kinds.isEmpty()) return NONE;
      for (int len = 0; len <= n; len++) {
        int many = 1; for (int i = 0; i < len; i++) many *= s.signs.size();
        for (int v = 0; v < many; v++) {
          int[] r = new int[len]; int rest = v; for (int i = len - 1; i >= 0; i--) { r[i] = rest % s.signs.size(); rest /= s.signs.size(); }
          if (new Trees(s, r, 2).all().size() >= 2) { wit = r; return len; }
        }
      }
      return NONE;
    }
    int witnessAt(int k) { return k >= 0 && k < wit.length ? wit[k] : NONE; }
    String name(int c) { return c >= 8 ? s.kinds.get(c - 8) : s.signs.get(c); }
    int tag(int i) {
      if (i < 2 || i >= s.items().size()) return NONE;
      int[] it = s.items().get(i); Rule r = s.rules.get(it[0]); List<String> w = new ArrayList<>(List.of(s.kinds.get(r.kind), "is"));
      for (int c : r.body) w.add(name(c)); w.add(2 + it[1], "."); tag = String.join(" ", w); return tag.length();
    }
    int byteAt(int i) { return i >= 0 && i < tag.length() ? tag.charAt(i) : NONE; }
    int x;
    int draw(int n) { x = x * 1103515245 + 12345; return (x >>> 8) % n; }
    int deeds(State t, int n, int seed) {
      x = seed; int done = 0;
      for (int d = 0; d < n; d++) {
        int w = draw(6), a = NONE, items = t.items().size() - 2;
        if (w <= 2 && items > 0) { int i = 2 + draw(items); int j = 2 + draw(items); a = t.merge(i, j); }
        else if (w == 3) a = t.depth(draw(2));
        else if (w == 4 && !t.rules.isEmpty()) a = t.drop(draw(t.rules.size()));
        else if (w == 5 && !t.kinds.isEmpty()) {
          int k = draw(t.kinds.size()), size = draw(4); List<Integer> b = new ArrayList<>();
          for (int i = 0; i < size; i++) { int c = draw(t.kinds.size() + t.signs.size()); b.add(c < t.kinds.size() ? 8 + c : c - t.kinds.size()); }
          a = t.add(k, b);
        }
        if (a == 0) done++;
      }
      return done;
    }
    int drawn(int n, int seed) {
      if (n < 1 || n > 40) return NONE;
      State before = s.copy(); int d = deeds(s, n, seed); if (d > 0) push(before); return d;
    }
    int odds(int n, int seed) {
      if (n < 1 || n > 6) return NONE;
      State keep = s; int sure = 0;
      for (int i = 0; i < n; i++) { s = keep.copy(); deeds(s, 3, seed + i); if (proven() == 1) sure++; }
      s = keep; return sure;
    }
    int book(int lives) {
      if (lives != 0 && lives != 1) return -1000;
      List<Object[]> l;
      try { fault = 0; l = new Text(take(), 400).book(s); } catch (Fault f) { fault = f.why; return -2 - f.at; }
      State t = s.copy(); int n = 0, why = 0;
      for (Object[] o : l) {
        String w = (String) o[0]; int a, base; int v = (Integer) o[1];
        if (w.equals("rule")) { @SuppressWarnings("unchecked") List<Integer> b = (List<Integer>) o[2]; a = t.add(v, b); base = 0; }
        else if (w.equals("merge")) { a = t.merge(v, (Integer) o[2]); base = 10; }
        else if (w.equals("drop")) { a = t.drop(v); base = 20; }
        else { a = t.depth(v); base = 30; }
        if (a != 0) { why = base + (a == 1 ? 1 : 9); break; }
        n++;
      }
      told = new int[] {why, n, t.rules.size(), t.classes()};
      if (lives == 1 && n > 0) { push(s); s = t; }
      return why == 0 ? NONE : n;
    }
    int told(int w) { return told == null || w < 0 || w > 3 ? NONE : told[w]; }
    int sentence() {
      Text t = new Text(take(), 200);
      try { fault = 0; cond = t.sentence(s); return t.ones; } catch (Fault f) { fault = f.why; return -1 - f.at; }
    }
    int said(int k) {
      if (cond == null) return NONE;
      List<Integer> l = new ArrayList<>(); for (int i = 2; i < s.items().size(); i++) if (cond.of(s, i)) l.add(i);
      return k == NONE ? l.size() : k >= 0 && k < l.size() ? l.get(k) : NONE;
    }
    int image(int k) { if (k < 0 || k > 1) return 0; img[k] = s.copy(); imgCond[k] = cond; return 1; }
    int restore(int k) { if (k < 0 || k > 1 || img[k] == null) return 0; s = img[k].copy(); cond = imgCond[k]; past.clear(); return 1; }
    int count(int w) {
      switch (w) {
        case 0: return s.signs.size(); case 1: return s.kinds.size(); case 2: return s.rules.size(); case 3: return s.items().size();
        case 4: return s.classes(); case 5: return tooMany() ? NONE : auto.places.size(); case 6: return s.depth; case 7: return tape.length(); default: return NONE;
      }
    }
  }

  // ---------- random runs ----------
  static Random rnd; static int wrong = 0; static long calls = 0; static long seedNow;
  static final StringBuilder log = new StringBuilder();
  static final Map<String, Integer> seen = new TreeMap<>();
  static void due(String call, int got, int want) {
    calls++; log.append(call).append(" = ").append(got).append('\n');
    seen.merge(call.replaceAll("\\(.*", "") + (want < 0 ? " below 0" : want == 0 ? " 0" : " above 0"), 1, Integer::sum);
    if (got == want || want == -2 - CAP && got >= CAP || want == -3 && got != 0) return;
    if (wrong++ == 0) System.out.print(log);
    System.out.println("seed " + seedNow + ": " + call + " answered " + got + ", due is " + want);
  }
  static int r(int n) { return rnd.nextInt(n); }
  static String pick(String... l) { return l[r(l.length)]; }
  static final String[] NAMES = {"a", "b", "c", "d", "s", "t", "u", "v", "w", "plus", "abcdefg"};
  static String ruleLine(Slow o, List<String> sg, List<String> kd) {
    StringBuilder b = new StringBuilder("rule " + (kd.isEmpty() ? "s" : kd.get(r(kd.size()))));
    List<String> all = new ArrayList<>(sg); all.addAll(kd);
    for (int i = r(10) == 0 ? r(5) : r(4); i > 0; i--) b.append(' ').append(all.isEmpty() ? "a" : all.get(r(all.size())));
    return b + ";";
  }
  static String grammarText(Slow o) {
    int ns = r(8) == 0 ? r(6) : 1 + r(3), nk = r(8) == 0 ? r(7) : 1 + r(4), nr = r(10) == 0 ? r(13) : 1 + r(7);
    StringBuilder b = new StringBuilder(); List<String> sg = new ArrayList<>(), kd = new ArrayList<>(), pool = new ArrayList<>(List.of(NAMES));
    Collections.shuffle(pool, rnd);
    while (sg.size() + kd.size() < ns + nk && !pool.isEmpty()) {
      boolean s = kd.size() >= nk || sg.size() < ns && r(2) == 0; String n = pool.remove(0);
      (s ? sg : kd).add(n); b.append(s ? "sign " : "kind ").append(n).append(pick(";", ";", "; ", " ;\n"));
    }
    for (int i = 0; i < nr; i++) b.append(ruleLine(o, sg, kd));
    return spoil(b.toString(), 12, 900);
  }
  static String bookText(Slow o) {
    StringBuilder b = new StringBuilder(); int n = r(12) == 0 ? 30 + r(15) : r(6), items = o.s.items().size();
    for (int i = 0; i < n; i++) {
      int w = r(9);
      if (w < 4) b.append("merge ").append(2 + r(Math.max(1, items - 2) + (r(9) == 0 ? 3 : 0))).append(' ').append(2 + r(Math.max(1, items - 2)));
      else if (w < 6) b.append("depth ").append(r(9) == 0 ? r(4) : i % 2 == 0 ? 1 - o.s.depth : o.s.depth);
      else if (w < 7) b.append("drop ").append(r(12));
      else { b.append(ruleLine(o, o.s.signs, o.s.kinds)); continue; }
      b.append(';');
    }
    return spoil(b.toString(), 8, 400);
  }
  static String one(Slow o, int d) {
    switch (r(d > 9 ? 8 : 11)) {
      case 0: return "first"; case 1: return "last"; case 2: return "alone";
      case 3: return "of " + (o.s.kinds.isEmpty() ? "q" : r(15) == 0 ? "a" : o.s.kinds.get(r(o.s.kinds.size())));
      case 4: { List<String> l = new ArrayList<>(o.s.signs); l.addAll(o.s.kinds); return "next " + (l.isEmpty() ? "q" : l.get(r(l.size()))); }
      case 5: case 6: case 7: return pick("rule", "dot", "number") + pick(" ", "") + pick("<", "=", ">") + pick(" ", "") + (r(3) == 0 ? r(45) : r(4));
      case 8: return "(" + cond(o, d + 1) + ")";
      default: return "not " + one(o, d + 1);
    }
  }
  static String cond(Slow o, int d) {
    StringBuilder b = new StringBuilder(one(o, d));
    for (int i = r(d == 1 && r(5) == 0 ? 20 : 3); i > 0; i--) b.append(pick(" and ", " or ")).append(one(o, d));
    return b.toString();
  }
  static String spoil(String s, int odds, int most) {
    if (r(odds) == 0 && !s.isEmpty()) { int i = r(s.length()); s = s.substring(0, i) + pick(";", "5", "a", "(", "!", "sign ", " rule ", "abcdefgh ", " ", " 1000 ", "", " 07") + s.substring(i + r(2)); }
    if (r(odds * 2) == 0 && !s.isEmpty()) s = s.substring(0, r(s.length()));
    if (r(odds * 2) == 0) { int to = most - 3 + r(6); StringBuilder b = new StringBuilder(s); int i = r(s.length() + 1); while (b.length() < to) b.insert(i, ' '); s = b.toString(); }
    return s.length() > 940 ? s.substring(0, 940) : s;
  }
  static void load(TwinTrees x, Slow o, String text) {
    due("end(0)", x.end(0) ? 1 : 0, o.end(0));
    for (int i = 0; i < text.length(); i += 20) {
      int[] v = new int[5];
      for (int t = 0; t < 20; t++) v[t / 4] = v[t / 4] << 8 | (i + t < text.length() ? text.charAt(i + t) : 0);
      due("feed(" + v[0] + ", " + v[1] + ", " + v[2] + ", " + v[3] + ", " + v[4] + ")", x.feed(v[0], v[1], v[2], v[3], v[4]), o.feed(v));
    }
    due("end(" + text.length() + ")", x.end(text.length()) ? 1 : 0, o.end(text.length()));
  }
  static String bytes(int most, Slow o) {
    StringBuilder b = new StringBuilder();
    int n = r(12) == 0 ? r(most + 3) : r(Math.min(most, 5) + 1);
    for (int i = 0; i < n; i++) b.append((char) (most == 3 ? (r(2) == 0 || o.s.kinds.isEmpty() ? r(o.s.signs.size() + (r(9) == 0 ? 1 : 0) + (o.s.signs.isEmpty() ? 1 : 0)) : 8 + r(o.s.kinds.size() + (r(9) == 0 ? 1 : 0)))
        : r(Math.max(1, o.s.signs.size()) + (r(15) == 0 ? 1 : 0))));
    return b.toString();
  }
  static void call(TwinTrees x, Slow o) {
    int n = o.s.items().size(), places = Math.min(o.auto().places.size(), 90), a, b, c;
    switch (r(40)) {
      case 0: load(x, o, grammarText(o)); due("grammar()", x.grammar(), o.grammar()); due("fault()", x.fault(), o.fault); break;
      case 1: a = r(12) - 1; b = r(8) - 1; due("rule(" + a + ", " + b + ")", x.rule(a, b), o.rule(a, b)); break;
      case 2: case 3: case 4: a = r(7) - 1; b = r(8) - 1; due("kind(" + a + ", " + b + ")", x.kind(a, b), o.kind(a, b)); break;
      case 5: a = r(n + 3) - 1; b = r(7) - 1; due("item(" + a + ", " + b + ")", x.item(a, b), o.item(a, b)); break;
      case 6: case 7: a = r(places + 2) - 1; b = r(6) - 1; due("place(" + a + ", " + b + ")", x.place(a, b), o.place(a, b)); break;
      case 8: case 9: case 10: a = r(places + 2) - 1; b = r(10) - 1; c = r(20) == 0 ? r(5) - 1 : r(2); due("step(" + a + ", " + b + ", " + c + ")", x.step(a, b, c), o.step(a, b, c)); break;
      case 11: case 12: case 13: a = r(n + 2) + (r(5) == 0 ? -1 : 0); b = r(n) + 1; { int i = a, j = b; due("merge(" + i + ", " + j + ")", x.merge(i, j), o.deed(s -> s.merge(i, j))); } break;
      case 14: case 15: { int d = r(8) == 0 ? r(4) - 1 : r(2); due("depth(" + d + ")", x.depth(d), o.deed(s -> s.depth(d))); } break;
      case 16: { int d = r(4) == 0 ? r(12) - 1 : o.s.rules.size() - 1; due("drop(" + d + ")", x.drop(d), o.deed(s -> s.drop(d))); } break;
      case 17: load(x, o, bytes(3, o)); a = r(6) == 0 ? r(7) - 1 : r(Math.max(1, o.s.kinds.size())); due("add(" + a + ")", x.add(a), o.add(a)); break;
      case 18: due("undo()", x.undo(), o.undo()); break;
      case 19: a = r(6) - 1; due("twins(" + a + ")", x.twins(a), o.twins(a)); break;
      case 20: a = r(places + 1) - r(2); b = r(places + 1); c = r(8) == 0 ? r(6) - 1 : r(4); due("twin(" + a + ", " + b + ", " + c + ")", x.twin(a, b, c), o.twin(a, b, c)); break;
      case 21: a = r(6) - 1; due("suspects(" + a + ")", x.suspects(a), o.suspects(a)); break;
      case 22: case 23: a = r(10) == 0 ? r(2000) - 1 : r(30); b = r(5) - 1; due("suspectAt(" + a + ", " + b + ")", x.suspectAt(a, b), o.suspectAt(a, b)); break;
      case 24: due("proven()", x.proven(), o.proven()); due("shadow()", x.shadow(), o.shadow()); break;
      case 25: case 26: load(x, o, bytes(8, o)); due("trees()", x.trees(), o.trees()); break;
      case 27: case 28: case 29: a = r(4) == 0 ? r(CAP + 1) - 1 : r(8); due("tree(" + a + ")", x.tree(a), o.tree(a)); for (int i = -1; i < Math.min(o.tree.size(), 12) + 1; i++) due("treeAt(" + i + ")", x.treeAt(i), o.treeAt(i)); break;
      case 30: if (r(3) != 0) break; a = r(10) == 0 ? r(9) - 2 : r(4); due("witness(" + a + ")", x.witness(a), o.witness(a)); for (int i = -1; i < 6; i++) due("witnessAt(" + i + ")", x.witnessAt(i), o.witnessAt(i)); break;
      case 31: a = r(n + 2); due("tag(" + a + ")", x.tag(a), o.tag(a)); for (int i = -1; i <= o.tag.length(); i++) due("byteAt(" + i + ")", x.byteAt(i), o.byteAt(i)); break;
      case 32: a = r(6) == 0 ? r(45) - 1 : 1 + r(4); b = rnd.nextInt(); due("drawn(" + a + ", " + b + ")", x.drawn(a, b), o.drawn(a, b)); break;
      case 33: a = r(9) - 1; b = r(9) == 0 ? Integer.MAX_VALUE - 1 : rnd.nextInt(); due("odds(" + a + ", " + b + ")", x.odds(a, b), o.odds(a, b)); break;
      case 34: load(x, o, bookText(o)); a = r(9) == 0 ? r(5) - 1 : r(2); due("book(" + a + ")", x.book(a), o.book(a)); due("fault()", x.fault(), o.fault); for (int i = -1; i < 5; i++) due("told(" + i + ")", x.told(i), o.told(i)); break;
      case 35: case 36: load(x, o, spoil(cond(o, 1), 8, 200)); due("sentence()", x.sentence(), o.sentence()); due("fault()", x.fault(), o.fault); break;
      case 37: a = r(3) == 0 ? r(10) - 2 : -1; due("said(" + a + ")", x.said(a), o.said(a)); break;
      case 38: a = r(8) == 0 ? r(4) - 1 : r(2); if (r(3) > 0) due("image(" + a + ")", x.image(a) ? 1 : 0, o.image(a)); else due("restore(" + a + ")", x.restore(a) ? 1 : 0, o.restore(a)); break;
      default: a = r(10) - 1; due("count(" + a + ")", x.count(a), o.count(a)); break;
    }
  }
  public static void main(String[] args) {
    int runs = args.length > 0 ? Integer.parseInt(args[0]) : 400; long first = args.length > 1 ? Long.parseLong(args[1]) : 1;
    for (long seed = first; seed < first + runs && wrong < 20; seed++) {
      seedNow = seed; rnd = new Random(seed); log.setLength(0);
      TwinTrees x = new TwinTrees(); Slow o = new Slow();
      if (r(10) > 0) { load(x, o, grammarText(o)); due("grammar()", x.grammar(), o.grammar()); }
      long before = calls; // an object answers 512 calls as told
      for (int i = 0; i < 120 && calls - before < 440 && wrong < 20; i++) call(x, o);
    }
    if (args.length > 2) seen.forEach((k, v) -> System.out.println(k + ": " + v));
    System.out.println(wrong == 0 ? calls + " answers are alike" : wrong + " answers differ");
    if (wrong != 0) System.exit(1);
  }
}
