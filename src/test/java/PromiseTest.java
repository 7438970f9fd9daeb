/** A test or more for each promise of the document, by number: ordinary inputs, edges, wrong inputs. */
public final class PromiseTest {
  private static final int NONE = -1;
  private static final String SUMS = "sign a;sign p;kind s;rule s s p s;rule s a;";
  private static final String PAIRS = "sign a;sign b;kind s;rule s a s b;rule s;";
  private static int wrong = 0;
  private static int asked = 0;

  private static void due(String what, int got, int want) {
    asked++;
    if (got != want) { wrong++; System.out.println(what + ": " + got + ", due is " + want); }
  }
  private static void due(String what, boolean got, boolean want) { due(what, got ? 1 : 0, want ? 1 : 0); }
  /** The answers of a call for 0, 1, .. are these, one behind the other. */
  private static void row(String what, java.util.function.IntUnaryOperator call, int... want) {
    for (int i = 0; i < want.length; i++) due(what + " of " + i, call.applyAsInt(i), want[i]);
  }
  private static void load(TwinTrees x, String text) {
    x.end(0);
    for (int i = 0; i < text.length(); i += 20) {
      int[] v = new int[5];
      for (int t = 0; t < 20; t++) v[t / 4] = v[t / 4] << 8 | (i + t < text.length() ? text.charAt(i + t) : 0);
      x.feed(v[0], v[1], v[2], v[3], v[4]);
    }
    due("end of a text", x.end(text.length()), true);
  }
  private static TwinTrees with(String text) {
    TwinTrees x = new TwinTrees(); load(x, text);
    if (x.grammar() < 0) { wrong++; System.out.println("no GRAMMAR: " + text); }
    return x;
  }
  private static void grammar(String text, int answer, int fault) {
    TwinTrees x = with(SUMS); load(x, text);
    due("grammar of " + text, x.grammar(), answer); due("its fault", x.fault(), fault); due("the tape behind", x.count(7), 0);
    if (fault != 0) due("it stays", x.count(2), 2);
  }
  private static void book(TwinTrees x, String text, int lives, int answer, int fault) {
    load(x, text); due("book of " + text, x.book(lives), answer); due("its fault", x.fault(), fault);
  }
  private static void sentence(TwinTrees x, String text, int answer, int fault) {
    load(x, text); due("sentence of " + text, x.sentence(), answer); due("its fault", x.fault(), fault);
  }
  private static void said(TwinTrees x, String text, int... items) {
    load(x, text);
    if (x.sentence() < 1) { wrong++; System.out.println("no SENTENCE: " + text); }
    due("how many: " + text, x.said(NONE), items.length); row(text, x::said, items);
    due("none such: " + text, x.said(items.length), NONE); due("none such", x.said(-2), NONE);
  }
  private static int trees(TwinTrees x, int... row) {
    StringBuilder b = new StringBuilder(); for (int s : row) b.append((char) s);
    load(x, b.toString()); return x.trees();
  }
  private static int add(TwinTrees x, int kind, int... symbols) {
    StringBuilder b = new StringBuilder(); for (int s : symbols) b.append((char) s);
    load(x, b.toString()); return x.add(kind);
  }
  private static void tree(TwinTrees x, int k, int... rules) {
    due("tree " + k, x.tree(k), rules.length); row("tree " + k, x::treeAt, rules); due("behind tree " + k, x.treeAt(rules.length), NONE);
  }
  private static String blanks(int n) { return " ".repeat(n); }

  private static void newObject() {
    TwinTrees x = new TwinTrees();
    row("1 count", x::count, 0, 0, 0, 2, 2, 2, 0, 0, NONE); due("1 fault", x.fault(), 0); due("1 undo", x.undo(), NONE);
    due("1 told", x.told(0), NONE); due("1 said", x.said(NONE), NONE); due("1 byteAt", x.byteAt(0), NONE); due("1 restore", x.restore(1), false);
  }
  private static void tape() {
    TwinTrees x = new TwinTrees();
    for (int i = 1; i <= 47; i++) due("2 feed", x.feed(-1, i, 0, 0, 0), 20 * i);
    due("2 feed beyond", x.feed(0, 0, 0, 0, 0), NONE); due("2 none come", x.count(7), 940);
    due("3 end", x.end(921), true); due("2 feed, one too many", x.feed(0, 0, 0, 0, 0), NONE);
    due("3 end", x.end(920), true); due("2 feed, none too many", x.feed(0, 0, 0, 0, 0), 940);
    due("3 end beyond", x.end(941), false); due("3 end below", x.end(-1), false); due("3 it stays", x.count(7), 940);
    due("3 end all", x.end(940), true); due("3 end none", x.end(0), true); due("3 end of none", x.end(1), false); due("3 none", x.count(7), 0);
    TwinTrees y = with("sign a;sign b;sign c;sign d;kind s;rule s a b c;rule s d b a;");
    y.feed(0x00010203, 0, 0, 0, 0); y.end(3);
    due("2 the highest byte first", y.trees(), 1); due("2 the highest byte first", y.tree(0), 1); due("2 the highest byte first", y.treeAt(0), 0);
    due("2 a byte above 127", trees(y, 255), NONE);
  }
  private static void grammars() {
    grammar("", 0, 0); grammar(" \n", 0, 0); grammar("sign a;kind s;rule s;rule s a s a;\n", 4, 0); grammar("sign abcdefg;\nkind\ns ;", 2, 0);
    grammar("sign", -5, 1); grammar("sign a", -7, 1); grammar("\tsign a;", -1, 1); grammar("sign a1;", -6, 1); grammar("sign 1a;", -6, 1);
    grammar("sign abcdefgh;", -6, 1); grammar("sign number;", -6, 1); grammar("sign is;", 1, 0); grammar("drop 1;", -1, 1); grammar(";", -1, 1);
    grammar("sign a;sign a;", -13, 3); grammar("kind a;sign a;", -13, 3); grammar("kind s;rule s t;", -15, 3); grammar("sign a;rule a;", -13, 3);
    grammar("rule s;kind s;", -6, 3); grammar("kind s;rule s s s s s;", -21, 4); grammar("kind s;rule s s s s t;", -21, 3); grammar("kind s;rule s s s s and;", -21, 1);
    grammar("sign a;sign b;sign c;sign d;sign 5;", -29, 4); grammar("kind a;kind b;kind c;kind d;kind e;sign f;kind g;", -43, 4);
    grammar("kind s;" + "rule s;".repeat(10), 11, 0); grammar("kind s;" + "rule s;".repeat(11), -78, 4); grammar("kind s;rule s < s;", -15, 1);
    grammar("kind s;" + blanks(893), 1, 0); grammar("kind s;" + blanks(894), -901, 1); grammar("kind s;!" + blanks(900), -8, 1);
    grammar(blanks(893) + "kind s;", 1, 0); grammar(blanks(894) + "kind s;", -901, 1); grammar(blanks(899) + "kind s;", -901, 1);
    grammar(blanks(899) + "kinds s;", -900, 1); grammar(blanks(900) + "!", -901, 1); grammar("kind s;rule s" + blanks(900), -901, 1);
    TwinTrees x = with(SUMS);
    x.depth(1); x.merge(2, 3); said(x, "first", 2, 6); x.image(0); load(x, SUMS); due("4 anew", x.grammar(), 5);
    due("4 DEPTH 0", x.count(6), 0); due("4 alone", x.count(4), 8); due("4 no SENTENCE", x.said(NONE), NONE); due("4 not undone", x.undo(), NONE);
    due("4 images stay", x.restore(0), true); due("4 images stay", x.count(4), 7); due("4 images stay", x.said(NONE), 2);
  }
  private static void faults() {
    TwinTrees x = new TwinTrees(); load(x, "drop 1;"); x.grammar(); due("5 of a grammar", x.fault(), 1); x.book(7); due("5 left", x.fault(), 1);
    book(x, "drop 10;", 0, -7, 2); sentence(x, "of s", -4, 3); x.trees(); due("5 left", x.fault(), 3); load(x, ""); x.grammar(); due("5 none", x.fault(), 0);
  }
  private static void rulesAndItems() {
    TwinTrees x = with("sign a;sign p;kind s;kind t;rule s t p s;rule s t;rule t a;rule t;");
    row("6 rule 0", w -> x.rule(0, w), 0, 3, 9, 1, 8, 2, NONE); row("6 rule 1", w -> x.rule(1, w), 0, 1, 9, NONE, NONE, 6);
    row("6 rule 3", w -> x.rule(3, w), 1, 0, NONE, NONE, NONE, 10); due("6 none", x.rule(4, 0), NONE); due("6 none", x.rule(-1, 0), NONE); due("6 none", x.rule(0, -1), NONE);
    row("8 item 0", w -> x.item(0, w), NONE, NONE, 8, 0, 1, NONE); row("8 item 1", w -> x.item(1, w), NONE, NONE, NONE, 1, 1);
    row("8 item 3", w -> x.item(3, w), 0, 1, 1, 3, 1, NONE); row("8 item 5", w -> x.item(5, w), 0, 3, NONE, 5, 1); row("8 item 10", w -> x.item(10, w), 3, 0, NONE, 10, 1);
    due("8 none", x.item(11, 0), NONE); due("8 none", x.item(-1, 3), NONE); due("8 none", x.item(2, -1), NONE);
    due("11 merge", x.merge(9, 4), 0); due("11 merge", x.merge(4, 2), 0); due("11 one CLASS", x.merge(2, 9), 1); due("11 itself", x.merge(3, 3), 1);
    row("8 item 9", w -> x.item(9, w), 2, 1, NONE, 2, 3); due("11 START", x.merge(0, 2), NONE); due("11 END", x.merge(2, 1), NONE); due("11 none", x.merge(2, 11), NONE);
    due("37 CLASSES", x.count(4), 9); due("37 ITEMS", x.count(3), 11); due("37 PLACES", x.count(5), 9);
  }
  private static void kinds() {
    // u can be nothing or begin by a; v is not made; w can't end
    TwinTrees x = with("sign a;sign b;sign c;kind s;kind u;kind v;kind w;rule s u b;rule s w c;rule u;rule u a;rule u u u;rule v s a;rule w w b;rule w u w;");
    row("7 s", w -> x.kind(0, w), 3, 0, 3, 0, 0, 1, NONE); row("7 u", w -> x.kind(1, w), 28, 1, 1, 3, 1, 1);
    row("7 v", w -> x.kind(2, w), 32, 0, 3, 0, 0, 0); row("7 w", w -> x.kind(3, w), 192, 0, 1, 6, 1, 0);
    due("7 none", x.kind(4, 0), NONE); due("7 none", x.kind(-1, 0), NONE); due("7 none", x.kind(0, -1), NONE);
    TwinTrees y = with("sign a;kind s;kind t;rule s s a;rule s t a;rule t a;");
    row("7 KIND 0 can be a row", w -> y.kind(0, w), 3, 0, 1, 1, 0, 1); due("7 USED", y.kind(1, 5), 1);
    y.drop(1); due("7 KIND 0 can't end", y.kind(0, 5), 0); due("7 not come to", y.kind(1, 5), 0); due("7 BEGINS", y.kind(0, 2), 0); due("7 FOLLOWS", y.kind(1, 3), 0);
    TwinTrees z = with("sign a;kind s;kind t;kind u;rule s a;rule s t u;rule t a;rule u u a;");
    due("7 t is made, but with what can't end", z.kind(1, 5), 0); due("7 FOLLOWS all the same", z.kind(1, 3), 0); due("7 FOLLOWS", z.kind(2, 3), 1);
  }
  /** RULES told from the bottom up, and from the top down: the answers are alike. */
  private static void kindsInAnyOrder() {
    String head = "sign a;sign b;kind s;kind t;kind u;kind v;kind w;", up = "rule w;rule w a;rule v w;rule u v w;rule t u;rule s t b;", down = "rule s t b;rule t u;rule u v w;rule v w;rule w a;rule w;";
    for (String rules : new String[] {up, down}) {
      TwinTrees x = with(head + rules);
      for (int k = 0; k < 5; k++) {
        due("7 EMPTY", x.kind(k, 1), k == 0 ? 0 : 1); due("7 BEGINS", x.kind(k, 2), k == 0 ? 3 : 1);
        due("7 FOLLOWS", x.kind(k, 3), k == 0 ? 0 : k < 3 ? 2 : 3); due("7 ENDLESS", x.kind(k, 4), 0); due("7 USED", x.kind(k, 5), 1);
      }
      add(x, 4, 9, 12); for (int k = 0; k < 5; k++) due("7 ENDLESS all round", x.kind(k, 4), k == 0 ? 0 : 1);
      x.undo(); for (int r = 0; r < 6; r++) if (x.rule(r, 0) == 3) { x.drop(r); break; }
      for (int k = 0; k < 5; k++) { due("7 none can end but w", x.kind(k, 5), 0); due("7 EMPTY", x.kind(k, 1), k == 4 ? 1 : 0); due("7 FOLLOWS all the same", x.kind(k, 3), k == 0 ? 0 : k == 3 ? 3 : 2); }
    }
  }
  private static void places() {
    TwinTrees x = with(SUMS);
    row("9 START", w -> x.place(0, w), 0, NONE, 2, 0, NONE); row("9 END", w -> x.place(1, w), 1, NONE, 0, 2); row("9 at .p", w -> x.place(3, w), 3, NONE, 1, 2);
    due("9 none", x.place(8, 0), NONE); due("9 none", x.place(-1, 0), NONE); due("9 none", x.place(0, -1), NONE);
    row("10 START's", w -> x.step(0, w, 0), 16, 17, NONE); row("10 to", w -> x.step(0, w, 1), 2, 6, NONE);
    row("10 closing", w -> x.step(7, w, 0), 33, 33, 33, NONE); row("10 to", w -> x.step(7, w, 1), 1, 3, 5);
    due("10 none", x.step(0, -1, 0), NONE); due("10 none", x.step(0, 0, 2), NONE); due("10 none", x.step(0, 0, -1), NONE); due("10 none", x.step(8, 0, 0), NONE);
    x.merge(3, 5);
    row("10 merged: SIGNS, then CLOSING", w -> x.step(3, w, 0), 1, 32, 32, NONE); row("10 once to one PLACE", w -> x.step(3, w, 1), 4, 1, 3);
    due("9 PLACES are CLASSES", x.place(5, 0), 6); due("9 from PLACES", x.place(3, 3), 2); x.undo(); x.depth(1);
    // DEPTH 1: START, END, (2..7 each of the CALLERS 0, 2, 4)
    row("9 by CALLER", w -> x.place(7, w), 3, 4, 1, 2); row("10 by CALLER", w -> x.step(7, w, 1), 10, NONE);
    row("9 CALLER START", w -> x.place(17, w), 7, 0, 1, 1); row("10 to END alone", w -> x.step(17, w, 1), 1, NONE);
    row("10 closing behind 2", w -> x.step(18, w, 0), 33, 33, 33, NONE); row("10 of each from which 2 can be", w -> x.step(18, w, 1), 5, 6, 7);
    row("10 opening from 4", w -> x.step(8, w, 1), 4, 16, NONE); due("9 PLACES", x.count(5), 20);
    TwinTrees y = with("kind s;kind t;" + "rule s t s t;".repeat(6) + "rule t t t t;".repeat(2));
    y.depth(1); due("9 TOO MANY", y.count(5), NONE); due("9 TOO MANY", y.place(0, 0), NONE); due("10 TOO MANY", y.step(0, 0, 0), NONE); due("16 TOO MANY", y.twins(0), NONE);
    due("17 TOO MANY", y.twin(0, 0, 0), NONE); due("18 TOO MANY", y.suspects(1), NONE); due("19 TOO MANY", y.suspectAt(0, 0), NONE); due("20 TOO MANY", y.proven(), NONE); due("21 TOO MANY", y.shadow(), NONE);
    TwinTrees z = with("sign a;kind s;kind t;rule s t a a;rule s a a t;rule s t t t;rule t a;rule t a a;rule t;");
    z.depth(1); due("9 by CALLERS", z.count(5), 2 + 12 + 6 * 5);
  }
  private static void deeds() {
    TwinTrees x = with(SUMS);
    due("12 depth", x.depth(0), 1); due("12 depth", x.depth(1), 0); due("12 depth", x.depth(1), 1); due("12 none", x.depth(2), NONE); due("12 none", x.depth(-1), NONE);
    x.merge(2, 7); due("13 drop", x.drop(0), 0); due("13 numbers", x.rule(0, 2), 0); due("13 RULES", x.count(2), 1); due("13 alone", x.count(4), 4); due("13 DEPTH stays", x.count(6), 1);
    due("13 none", x.drop(1), NONE); due("13 none", x.drop(-1), NONE); x.merge(2, 3);
    due("14 add", add(x, 0, 8, 1, 0), 0); row("14 rule", w -> x.rule(1, w), 0, 3, 8, 1, 0, 4); due("14 alone", x.count(4), 8); due("14 the tape", x.count(7), 0);
    due("14 empty", add(x, 0), 0); due("14 four", add(x, 0, 0, 0, 0, 0), NONE); due("14 the tape", x.count(7), 0); due("14 no KIND", add(x, 1), NONE); due("14 no KIND", add(x, -1), NONE);
    due("14 no SIGN", add(x, 0, 2), NONE); due("14 no KIND told", add(x, 0, 9), NONE); due("14 no such", add(x, 0, 7), NONE); due("14 no such", add(x, 0, 0, 200), NONE);
    for (int r = 3; r < 10; r++) due("14 alike", add(x, 0, 0), 0);
    due("14 ten", add(x, 0, 0), 1); due("14 ten, not as told", add(x, 0, 2), NONE); due("14 RULES", x.count(2), 10);
    row("15 undo, 8 kept", i -> x.undo(), 7, 6, 5, 4, 3, 2, 1, 0, NONE); due("15 RULES", x.count(2), 2);
    TwinTrees y = with(SUMS); y.merge(2, 3); y.merge(2, 3); y.depth(0); y.drop(9); y.drawn(1, 5); int more = y.drawn(1, 5) >= 0 ? y.undo() : 9;
    due("15 those alone that were 0", more >= 0 && more < 3 ? 1 : 0, 1);
  }
  private static void twins() {
    TwinTrees x = with(PAIRS);
    row("16 twins", x::twins, 9, 6, 0, 0, NONE); due("16 none", x.twins(-1), NONE); due("17 first", x.twin(0, 0, 0), 1); due("17 reached", x.twin(2, 6, 1), 1);
    due("17 not", x.twin(5, 4, 0), 0); due("17 none", x.twin(7, 0, 0), NONE); due("17 none", x.twin(0, -1, 0), NONE); due("17 none", x.twin(0, 0, 4), NONE);
    due("20 proven", x.proven(), 1); due("21 proven", x.shadow(), NONE); due("18 none", x.suspects(1), 0); due("18 no such", x.suspects(0), NONE); due("18 no such", x.suspects(4), NONE); due("19 none", x.suspectAt(0, 0), NONE);
    // two RULES alike: apart by OPENING, the same SIGN, CLOSING: they MEET behind one SIGN
    TwinTrees y = with("sign a;kind s;rule s a;rule s a;");
    row("16 twins", y::twins, 6, 9, 0, 0); due("20 not", y.proven(), 0); due("21 shadow", y.shadow(), 1);
    due("17 suspect", y.twin(2, 4, 1), 2); due("17 suspect", y.twin(1, 1, 1), 2); due("17 STAGE 0 is none", y.twin(2, 2, 0), 1); due("17 not", y.twin(2, 2, 1), 0);
    due("18 suspects", y.suspects(1), 9); due("18 suspects", y.suspects(2), 0);
    row("19 first", k -> y.suspectAt(k, 0), 1, 1, 1, 2, 3, 3, 4, 5, 5, NONE); row("19 second", k -> y.suspectAt(k, 1), 1, 3, 5, 4, 1, 5, 2, 1, 3, NONE);
    due("19 STAGE", y.suspectAt(0, 2), 1); due("19 none", y.suspectAt(0, 3), NONE); due("19 none", y.suspectAt(-1, 0), NONE);
    // one goes on by itself while the other one has a SIGN: 2 and 3, then the like SIGN, END
    TwinTrees z = with("sign a;kind s;rule s a;rule s a a;"); z.merge(3, 6);
    due("20 proven", z.proven(), 0); due("21 merged", z.shadow(), 1); z.undo(); due("20 alone", z.proven(), 1); z.merge(3, 5); row("16 CLOSING beside a SIGN", z::twins, 6, 9, 1, 1); due("17 left", z.twin(1, 3, 2), 1); due("17 right", z.twin(3, 1, 3), 1); due("18 of 2", z.suspects(2), 0);
    TwinTrees e = with("sign a;kind s;kind t;rule s t t;rule t a;rule t;"); due("16 no STAGE 2 yet", e.twins(2), 0); e.merge(5, 7);
    due("16 STAGE 2", e.twins(2) > 0 ? 1 : 0, 1); due("16 left and right", e.twins(2) - e.twins(3), 0); due("18 left and right", e.suspects(2) - e.suspects(3), 0); due("18 of STAGE 2", e.suspects(2) > 0 ? 1 : 0, 1);
    int k = 0;
    for (int p = 0; p < e.count(5); p++) for (int q = 0; q < e.count(5); q++) for (int stage = 1; stage <= 3; stage++) if (e.twin(p, q, stage) == 2) {
      due("19 first PLACE", e.suspectAt(k, 0), p); due("19 second PLACE", e.suspectAt(k, 1), q); due("19 STAGE", e.suspectAt(k, 2), stage); k++;
    }
    due("19 all of them", e.suspects(1) + e.suspects(2) + e.suspects(3), k); due("19 behind", e.suspectAt(k, 0), NONE);
    TwinTrees sums = with(SUMS); due("21 DEPTH 0", sums.shadow(), 1); sums.depth(1); due("21 DEPTH 1", sums.shadow(), 3); due("20 DEPTH 1", sums.proven(), 0);
  }
  private static void treesOfRows() {
    TwinTrees x = with(SUMS);
    due("23 ahead of any", x.tree(0), NONE); due("24 ahead of any", x.treeAt(0), NONE); due("26 ahead of any", x.witnessAt(0), NONE);
    due("22 trees", trees(x, 0, 1, 0, 1, 0), 2); due("22 the tape", x.count(7), 0); tree(x, 0, 0, 1, 0, 1, 1); tree(x, 1, 0, 0, 1, 1, 1);
    due("23 none", x.tree(2), NONE); due("23 none", x.tree(-1), NONE); due("24 stays", x.treeAt(1), 0); due("24 none", x.treeAt(-1), NONE);
    due("22 five", trees(x, 0, 1, 0, 1, 0, 1, 0), 5); due("22 none", trees(x, 1), 0); due("23 none", x.tree(0), NONE); due("22 no SIGN", trees(x, 0, 2), NONE); due("22 the tape", x.count(7), 0);
    due("22 nine", trees(x, 0, 0, 0, 0, 0, 0, 0, 0, 0), NONE); due("22 eight", trees(x, 0, 1, 0, 1, 0, 1, 0, 1), 0); due("22 a row stays", trees(x, 0, 1, 0), 1); trees(x, 9);
    tree(x, 0, 0, 1, 1); x.drop(0); due("23 by RULES as they are now", x.tree(0), NONE); x.undo(); tree(x, 0, 0, 1, 1);
    due("25 witness", x.witness(4), NONE); due("25 witness", x.witness(5), 5); row("26", x::witnessAt, 0, 1, 0, 1, 0, NONE); due("25 not as told", x.witness(6), NONE); due("25 not as told", x.witness(-1), NONE);
    due("26 none", x.witnessAt(-1), NONE); x.drop(0); due("25 none", x.witness(5), NONE); due("26 stays", x.witnessAt(1), 1);
    // at most two of one KIND with one part
    TwinTrees y = with("sign a;kind s;kind t;rule s t;rule t s;rule t a;");
    due("22 two of a KIND", trees(y, 0), 2); tree(y, 0, 0, 1, 0, 2); tree(y, 1, 0, 2); due("25 the fewest", y.witness(5), 1);
    TwinTrees z = with("sign a;kind s;rule s;rule s s s;rule s a;");
    due("22 of no SIGN", trees(z), 2); tree(z, 0, 0); tree(z, 1, 1, 0, 0); due("25 no SIGN", z.witness(0), 0); due("26 no SIGN", z.witnessAt(0), NONE);
    // s of a: a; (empty: 2) (a: a) and likewise behind it: 2 * 2 more
    due("22 of one SIGN", trees(z, 0), 5); tree(z, 0, 1, 0, 2); tree(z, 1, 1, 1, 0, 0, 2); tree(z, 2, 1, 2, 0); tree(z, 3, 1, 2, 1, 0, 0); tree(z, 4, 2);
    due("22 no KINDS", trees(new TwinTrees()), NONE); due("25 no KINDS", new TwinTrees().witness(0), NONE);
    // SIGN by SIGN of the least numbers
    TwinTrees w = with("sign a;sign b;kind s;rule s b a;rule s b a;rule s a b;rule s a b;rule s b b;"); due("25 the least", w.witness(5), 2); row("26 the least", w::witnessAt, 0, 1, NONE);
    TwinTrees many = with("sign a;kind s;rule s s s;rule s s s;rule s a;rule s a;");
    due("22 at most", trees(many, 0, 0, 0, 0, 0, 0, 0, 0), 9999); due("23 the last told", many.tree(9998), 15); due("23 beyond", many.tree(9999), NONE);
    // 429 shapes of 2 to the 15th each: the first, then the last leaf changes first
    due("23 first", many.tree(0), 15); due("24 first", many.treeAt(14), 2); many.tree(1); due("24 second", many.treeAt(14), 3); due("24 second", many.treeAt(13), 2);
  }
  private static void largeTrees() {
    // 121 RULES; each e told as an a again has 121 more
    TwinTrees x = with("kind a;kind b;kind c;kind d;kind e;rule a b b b;rule b c c c;rule c d d d;rule d e e e;rule e;rule e a;");
    due("22 many", trees(x), 9999); due("23 first", x.tree(0), 121); due("23 next", x.tree(1), 242); due("24 last", x.treeAt(241), 4); due("24 behind", x.treeAt(242), NONE);
    due("23 four parts", x.tree(7), 484); due("23 more than 600", x.tree(15), NONE); due("24 stays", x.treeAt(483), 4); due("23 one again", x.tree(8192), 242); due("23 beyond", x.tree(9999), NONE);
    TwinTrees y = with("kind s;kind t;kind u;kind v;kind w;rule s t t t;rule t u u;rule u v v v;rule v w w w;rule w;rule w s;rule w t s;rule w s s;rule w v t;");
    trees(y); due("23 of 600", y.tree(1561), 600); due("23 of 601", y.tree(2305), NONE);
    due("24 the last of 600", y.treeAt(599) >= 0, true); due("24 behind", y.treeAt(600), NONE);
  }
  private static void tagTexts() {
    TwinTrees x = with("sign plus;kind sum;kind term;rule sum sum plus term;rule term;");
    String[] want = {"sum is . sum plus term", "sum is sum . plus term", "sum is sum plus . term", "sum is sum plus term .", "term is ."};
    for (int i = 0; i < want.length; i++) {
      due("27 tag", x.tag(i + 2), want[i].length());
      for (int t = 0; t < want[i].length(); t++) due("28 " + want[i], x.byteAt(t), want[i].charAt(t));
      due("28 behind", x.byteAt(want[i].length()), NONE); due("28 ahead", x.byteAt(-1), NONE);
    }
    due("27 START", x.tag(0), NONE); due("27 END", x.tag(1), NONE); due("27 none", x.tag(7), NONE); due("27 none", x.tag(-1), NONE); due("28 stays", x.byteAt(0), 't');
    TwinTrees y = with("kind abcdefg;rule abcdefg abcdefg abcdefg abcdefg;"); due("27 the longest", y.tag(2), 36); due("28 the last", y.byteAt(35), 'g');
  }
  private static void draws() {
    TwinTrees x = with(SUMS);
    due("29 none", x.drawn(0, 1), NONE); due("29 none", x.drawn(41, 1), NONE); due("30 none", x.odds(0, 1), NONE); due("30 none", x.odds(7, 1), NONE);
    // the draws of seed 1: of 6, then as that tells
    for (int seed = -40; seed < 40; seed++) {
      TwinTrees y = with(SUMS); TwinTrees z = with(SUMS); int s = seed * 7919;
      int d = s * 1103515245 + 12345, deed = (d >>> 8) % 6, e = d * 1103515245 + 12345, f = e * 1103515245 + 12345, answer;
      if (deed <= 2) answer = z.merge(2 + (e >>> 8) % 6, 2 + (f >>> 8) % 6);
      else if (deed == 3) answer = z.depth((e >>> 8) % 2);
      else if (deed == 4) answer = z.drop((e >>> 8) % 2);
      else {
        int size = (f >>> 8) % 4; int[] symbols = new int[size];
        for (int t = 0; t < size; t++) { f = f * 1103515245 + 12345; int c = (f >>> 8) % 3; symbols[t] = c == 0 ? 8 : c - 1; }
        answer = add(z, (e >>> 8) % 1, symbols);
      }
      due("29 drawn", y.drawn(1, s), answer == 0 ? 1 : 0); due("29 undone", y.count(2) * 1000 + y.count(4) * 10 + y.count(6), z.count(2) * 1000 + z.count(4) * 10 + z.count(6));
      for (int i = 0; i < z.count(3); i++) due("29 as drawn", y.item(i, 3) * 100 + y.item(i, 2), z.item(i, 3) * 100 + z.item(i, 2));
      due("15 undo", y.undo(), answer == 0 ? 0 : NONE); due("15 undone", y.count(3), 8); due("15 undone", y.count(4), 8);
      int sure = 0; for (int t = 0; t < 3; t++) { TwinTrees o = with(PAIRS); o.drawn(3, s + t); if (o.proven() == 1) sure++; }
      TwinTrees p = with(PAIRS); due("30 odds", p.odds(3, s), sure); due("30 all stays", p.count(4) * 10 + p.proven(), 71); due("30 nothing to undo", p.undo(), NONE);
    }
    TwinTrees none = new TwinTrees(); for (int seed = 0; seed < 20; seed++) none.drawn(1, seed); due("29 no ITEMS, RULES, KINDS", none.count(2) + none.count(3), 2);
  }
  private static void books() {
    TwinTrees x = with(SUMS);
    book(x, "", 0, NONE, 0); row("32 none WRONG", x::told, 0, 0, 2, 8, NONE); due("32 none", x.told(-1), NONE);
    book(x, "merge 2 4;depth 1;drop 1;", 0, NONE, 0); row("32 judged", x::told, 0, 3, 1, 6); due("31 all stays", x.count(2) + x.count(6), 2); due("31 nothing to undo", x.undo(), NONE);
    book(x, "merge 2 4;merge 4 2;depth 1;", 0, 1, 0); row("32 merging", x::told, 11, 1, 2, 7); book(x, "merge 2 8;", 0, 0, 0); row("32 no ITEM", x::told, 19, 0, 2, 8);
    book(x, "drop 2;", 1, 0, 0); row("32 no RULE", x::told, 29, 0, 2, 8); due("31 none lived", x.undo(), NONE); book(x, "depth 0;", 0, 0, 0); row("32 DEPTH", x::told, 31, 0, 2, 8);
    book(x, "rule s a;".repeat(9), 0, 8, 0); row("32 adding", x::told, 1, 8, 10, 24);
    load(x, "depth 1;"); due("31 another", x.book(2), -1000); due("31 the tape stays", x.count(7), 8); due("31 another", x.book(-1), -1000); due("31 lived", x.book(1), NONE); due("31 lived", x.count(6), 1); due("31 the tape", x.count(7), 0);
    book(x, "rule s p;merge 2 3;drop 7;depth 0;", 1, 2, 0); due("31 lived ahead", x.count(2) * 10 + x.count(4), 39); due("31 not behind", x.count(6), 1);
    due("15 a BOOK at once", x.undo(), 1); due("15 a BOOK at once", x.count(2) * 10 + x.count(4), 28); due("15 undo", x.undo(), 0);
    book(x, "drop", 0, -6, 1); book(x, "drop 10;", 0, -7, 2); book(x, "drop 1 1;", 0, -9, 1); book(x, "drop 0010;", 0, -7, 1); book(x, "drop 007;", 0, 0, 0); book(x, "merge 1 2;", 0, -8, 2);
    book(x, "merge 2 42;", 0, -10, 2); book(x, "merge 2;", 0, -9, 1); book(x, "merge 41 2;", 0, 0, 0); book(x, "depth 2;", 0, -8, 2); book(x, "depth s;", 0, -8, 1); book(x, "sign z;", 0, -2, 1); book(x, "rule t;", 0, -7, 3); book(x, "rule a;", 0, -7, 3);
    book(x, "rule s z;", 0, -9, 3); book(x, "rule s s s s s;", 0, -15, 4); due("32 stays", x.told(0), 19);
    book(x, "drop 9;".repeat(40), 0, 0, 0); book(x, "drop 9;".repeat(41), 0, -282, 4); book(x, "drop 9;".repeat(40) + "kind", 0, -282, 1); book(x, "drop 9;" + blanks(393), 0, 0, 0);
    book(x, "drop 9;" + blanks(394), 0, -402, 1); book(x, blanks(399) + "drop 9;", 0, -402, 1); book(x, blanks(398) + "drap", 0, -400, 1); book(x, "depth 1;drop 5", 1, -16, 1); due("31 with a FAULT none lives", x.count(6), 0);
  }
  private static void sentences() {
    TwinTrees x = with(SUMS);
    said(x, "first", 2, 6); said(x, "last", 5, 7); said(x, "not last", 2, 3, 4, 6); said(x, "alone", 2, 3, 4, 5, 6, 7); said(x, "of s", 2, 3, 4, 5, 6, 7); said(x, "next s", 2, 4); said(x, "next p", 3);
    said(x, "rule = 1", 6, 7); said(x, "rule<1", 2, 3, 4, 5); said(x, "dot > 1", 4, 5); said(x, "number > 999"); said(x, "number < 4", 2, 3); said(x, "number=007", 7);
    said(x, "first or last and rule = 0", 2, 5, 6); said(x, "(first or last) and rule = 0", 2, 5); said(x, "not (first or last)", 3, 4); said(x, "not first and not last", 3, 4); said(x, "not first or last", 3, 4, 5, 7);
    x.merge(3, 5); said(x, "not alone", 3, 5); x.merge(2, 3); due("34 as it is now", x.said(NONE), 3); x.undo(); x.undo(); due("34 as it is now", x.said(NONE), 0);
    sentence(x, "", -1, 1); due("33 it stays", x.said(NONE), 0); sentence(x, "first", 1, 0); sentence(x, "fist", -1, 1); due("33 it stays", x.said(NONE), 2); due("33 the tape", x.count(7), 0);
    sentence(x, "(first", -7, 1); sentence(x, "first)", -6, 1); sentence(x, "first first", -7, 1); sentence(x, "first or", -9, 1); sentence(x, "not", -4, 1); sentence(x, "of a", -4, 3); sentence(x, "of z", -4, 3);
    sentence(x, "of of", -4, 1); sentence(x, "next z", -6, 3); sentence(x, "next 5", -6, 1); sentence(x, "rule 1", -6, 1); sentence(x, "rule = s", -8, 1); sentence(x, "rule = 1000", -8, 1); sentence(x, "dot = 999", 1, 0); sentence(x, "dot (", -5, 1);
    sentence(x, "not (first and alone)", 4, 0); sentence(x, "first" + " or first".repeat(19), 20, 0); sentence(x, "last" + " or last".repeat(20), -161, 4); sentence(x, "last" + " or last".repeat(19) + " or fist", -161, 1);
    sentence(x, "not ".repeat(7) + "first", 8, 0); sentence(x, "not ".repeat(8) + "first", -33, 4); sentence(x, "(".repeat(7) + "first" + ")".repeat(7), 8, 0); sentence(x, "(".repeat(8) + "first", -9, 4); sentence(x, "not(".repeat(4) + ";", -17, 1);
    sentence(x, "first" + blanks(195), 1, 0); sentence(x, "first" + blanks(196), -201, 1); sentence(x, blanks(199) + "first", -201, 1); sentence(x, blanks(199) + "fist", -200, 1);
    TwinTrees y = new TwinTrees(); due("34 no SENTENCE", y.said(0), NONE); sentence(y, "first", 1, 0); due("34 no ITEMS", y.said(NONE), 0); due("34 none such", y.said(0), NONE);
  }
  private static void images() {
    TwinTrees x = with(SUMS);
    due("35 none", x.image(2), false); due("35 none", x.image(-1), false); due("36 none", x.restore(2), false); due("36 none", x.restore(-1), false); due("36 nothing kept", x.restore(0), false);
    x.merge(2, 4); x.depth(1); said(x, "first", 2, 6); due("35 image", x.image(1), true); due("35 undo stays", x.undo(), 1); trees(x, 0, 1, 0); x.tree(0); x.tag(2); x.witness(5); load(x, "drop 5;"); x.book(0);
    load(x, PAIRS); x.grammar(); x.merge(2, 3); load(x, "!!"); x.sentence(); load(x, "abc"); due("36 nothing kept", x.restore(0), false); due("36 restore", x.restore(1), true);
    due("36 as kept", x.count(2) * 100 + x.count(4) * 10 + x.count(6), 271); due("36 CLASS", x.item(4, 3), 2); due("36 SENTENCE", x.said(NONE), 2); due("36 undo", x.undo(), NONE); due("36 the tape", x.count(7), 3);
    due("36 fault stays", x.fault(), 1); due("36 told stays", x.told(0), 29); due("36 TAG stays", x.byteAt(0), 's'); due("36 TREE stays", x.treeAt(0), 0); due("36 row stays", x.tree(0), 3); due("36 WITNESS stays", x.witnessAt(0), 0);
    due("36 again", x.restore(1), true); x.merge(5, 6); due("36 apart", x.restore(1), true); due("36 apart", x.count(4), 7); x.image(0); load(x, ""); x.grammar(); x.image(1); x.restore(0); due("35 places apart", x.count(2), 2); x.restore(1); due("35 places apart", x.count(2), 0);
  }
  /** Numbers far out are answered by NONE (or false), whatever is so. */
  private static void farOut() {
    int[] far = {Integer.MIN_VALUE, Integer.MIN_VALUE + 1, -1000, -9, 1000, 9999, 1 << 30, Integer.MAX_VALUE - 1, Integer.MAX_VALUE};
    for (int n = 0; n < 3; n++) for (int f : far) {
      TwinTrees x = n == 0 ? new TwinTrees() : with(SUMS);
      if (n == 2) { x.depth(1); trees(x, 0, 1, 0); x.tree(0); x.witness(5); x.tag(2); said(x, "first", 2, 6); }
      for (int w = 0; w < 3; w++) {
        int[] got = {x.rule(f, w), x.rule(w, f), x.kind(f, w), x.kind(w, f), x.item(f, w), x.item(w, f), x.place(f, w), x.place(w, f), x.step(f, w, 0), x.step(w, f, 0), x.step(w, 0, f),
          x.merge(f, w + 2), x.merge(w + 2, f), x.depth(f), x.drop(f), x.twins(f), x.twin(f, w, 1), x.twin(w, f, 1), x.twin(0, w, f), x.suspects(f), x.suspectAt(f, w), x.suspectAt(w, f), x.tree(f), x.treeAt(f),
          x.witness(f), x.witnessAt(f), x.tag(f), x.byteAt(f), x.drawn(f, w), x.odds(f, w), x.told(f), x.said(f), x.count(f), x.add(f)};
        for (int i = 0; i < got.length; i++) due("far out " + f + ", the " + i + "th", got[i], NONE);
        due("far out", x.end(f) || x.image(f) || x.restore(f), false); due("far out", x.book(f), -1000);
        if (n > 0) { x.odds(6, f); due("far out", x.drawn(40, f) >= 0, true); }
      }
    }
  }
  public static void main(String[] args) {
    newObject(); tape(); grammars(); faults(); rulesAndItems(); kinds(); kindsInAnyOrder(); places(); deeds(); twins(); treesOfRows(); largeTrees(); tagTexts(); draws(); books(); sentences(); images(); farOut();
    due("NONE", TwinTrees.NONE, -1);
    System.out.println(wrong == 0 ? asked + " answers are as due" : wrong + " answers are not as due");
    if (wrong != 0) System.exit(1);
  }
}
