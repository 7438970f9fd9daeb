import java.lang.reflect.InvocationTargetException;
import java.lang.reflect.Method;
import java.util.ArrayDeque;
import java.util.Arrays;
import java.util.Comparator;
import java.util.Random;
import java.util.function.Consumer;

/**
 * A test of its own for each sentence of the document that names an edge: the last value that is taken, the first
 * that is not, and what stays as it was behind a refused call. Each says which term or promise it is of. The tests are
 * the methods whose names begin with 'term' or 'promise'; none of them asks one object more than 512 times.
 */
public final class EdgeTest {
  private static final int NONE = -1;
  private static final int FAR = Integer.MAX_VALUE;
  private static final int FAR_BELOW = Integer.MIN_VALUE;
  /** Two SIGNS, a KIND, ITEMS 2 to 7; 0 1 0 1 0 is the first row of two TREES. */
  private static final String SUMS = "sign a;sign p;kind s;rule s s p s;rule s a;";
  /** No row has two TREES, and that is PROVEN. */
  private static final String PAIRS = "sign a;sign b;kind s;rule s a s b;rule s;";
  /** All that there may be: 4 SIGNS, 5 KINDS, 10 RULES of 3 SYMBOLS, ITEMS 2 to 41. */
  private static final String FULL = "sign a;sign b;sign c;sign d;kind s;kind t;kind u;kind v;kind w;" + "rule s a b c;".repeat(10);
  /** By DEPTH 1: START, END, 13 ITEMS of KIND 0 by 6 CALLERS; one RULE of KIND 1 has one CALLER. */
  private static final String EIGHTY = "sign a;kind s;kind t;rule s s s s;rule s s s a;rule s a a t;rule s;";
  private static final String[] RESERVED = {
    "sign", "kind", "rule", "drop", "merge", "depth", "or", "and", "not", "first", "last", "alone", "of", "next", "dot", "number"
  };

  // ---------- what a test says ----------
  private static String title = "";
  private static int wrong = 0;
  private static int asked = 0;

  private static void test(String name) { title = name; }
  private static void due(String what, long got, long want) {
    asked++;
    if (got != want) { wrong++; System.out.println(title + ": " + what + ": " + got + ", due is " + want); }
  }
  private static void due(String what, boolean got, boolean want) { due(what, got ? 1 : 0, want ? 1 : 0); }
  private static void same(String what, String got, String want) {
    asked++;
    if (!got.equals(want)) { wrong++; System.out.println(title + ": " + what + ": " + got + ", due is " + want); }
  }

  // ---------- calls ----------
  private static void load(TwinTrees x, String text) {
    due("end(0)", x.end(0), true);
    for (int i = 0; i < text.length(); i += 20) {
      int[] v = new int[5];
      for (int t = 0; t < 20; t++) v[t / 4] = v[t / 4] << 8 | (i + t < text.length() ? text.charAt(i + t) : 0);
      due("feed", x.feed(v[0], v[1], v[2], v[3], v[4]), i + 20);
    }
    due("end of a text", x.end(text.length()), true);
  }
  private static void bytes(TwinTrees x, int... row) {
    StringBuilder b = new StringBuilder();
    for (int c : row) b.append((char) c);
    load(x, b.toString());
  }
  private static TwinTrees with(String text) { TwinTrees x = new TwinTrees(); anew(x, text); return x; }
  private static void anew(TwinTrees x, String text) {
    load(x, text);
    due("a GRAMMAR: " + text, x.grammar(), text.chars().filter(c -> c == ';').count());
  }
  private static int trees(TwinTrees x, int... row) { bytes(x, row); return x.trees(); }
  private static int add(TwinTrees x, int kind, int... symbols) { bytes(x, symbols); return x.add(kind); }
  private static int book(TwinTrees x, String text, int lives) { load(x, text); return x.book(lives); }
  private static int sentence(TwinTrees x, String text) { load(x, text); return x.sentence(); }
  private static String blanks(int n) { return " ".repeat(n); }
  private static boolean letter(int b) { return b >= 'a' && b <= 'z'; }
  private static boolean digit(int b) { return b >= '0' && b <= '9'; }
  private static boolean blank(int b) { return b == 32 || b == 10; }

  /** All that is so: GRAMMAR, CLASSES, DEPTH, what the SENTENCE says. */
  private static String so(TwinTrees x) {
    StringBuilder b = new StringBuilder();
    for (int w = 0; w <= 6; w++) b.append(x.count(w)).append(' ');
    int rules = x.count(2), items = x.count(3);
    for (int r = 0; r < rules; r++) for (int w = 0; w <= 4; w++) b.append(x.rule(r, w)).append(' ');
    for (int i = 2; i < items; i++) b.append(x.item(i, 3)).append(' ');
    return b.append(x.said(NONE)).append(' ').append(x.said(0)).toString();
  }
  /** What calls told last. */
  private static String told(TwinTrees x) {
    StringBuilder b = new StringBuilder();
    for (int i = 0; i <= 5; i++) b.append(x.treeAt(i)).append(' ').append(x.witnessAt(i)).append(' ').append(x.byteAt(i)).append(' ').append(x.told(i)).append(' ');
    return b.toString();
  }
  private static String all(TwinTrees x) { return so(x) + " " + told(x); }
  /** An object of which something is so, and to which something was told, of each sort; two acts can be undone. */
  private static TwinTrees busy() {
    TwinTrees x = with(SUMS);
    due("merge", x.merge(2, 4), 0);
    due("depth", x.depth(1), 0);
    due("sentence", sentence(x, "first"), 1);
    due("trees", trees(x, 0, 1, 0), 1);
    due("tree", x.tree(0), 3);
    due("witness", x.witness(5), 5);
    due("tag", x.tag(2), 12);
    due("book", book(x, "merge 2 5;drop 7;", 0), 1);
    return x;
  }
  private static void stays(TwinTrees x, String before) { same("all stays", all(x), before); }

  // ---------- texts that are taken, and those with a FAULT ----------
  private static void taken(String text, int lines) {
    TwinTrees x = with(SUMS);
    load(x, text);
    due("grammar of '" + text + "'", x.grammar(), lines);
    due("fault()", x.fault(), 0);
    due("the tape", x.count(7), 0);
  }
  private static void refused(String text, int place, int fault) {
    TwinTrees x = busy();
    String before = all(x);
    load(x, text);
    due("grammar of '" + text + "'", x.grammar(), -1 - place);
    due("fault() of '" + text + "'", x.fault(), fault);
    due("the tape", x.count(7), 0);
    stays(x, before);
    due("undo()", x.undo(), 1);
  }
  private static void bookTaken(String text, int answer) {
    TwinTrees x = with(SUMS);
    due("book of '" + text + "'", book(x, text, 0), answer);
    due("fault()", x.fault(), 0);
    due("the tape", x.count(7), 0);
  }
  private static void bookRefused(String text, int place, int fault) {
    TwinTrees x = busy();
    String before = all(x);
    due("book of '" + text + "'", book(x, text, 1), -2 - place);
    due("fault() of '" + text + "'", x.fault(), fault);
    due("the tape", x.count(7), 0);
    stays(x, before);
    due("undo()", x.undo(), 1);
  }
  private static void sentenceTaken(String text, int ones) {
    TwinTrees x = with(SUMS);
    due("sentence of '" + text + "'", sentence(x, text), ones);
    due("fault()", x.fault(), 0);
    due("the tape", x.count(7), 0);
  }
  private static void sentenceRefused(String text, int place, int fault) {
    TwinTrees x = busy();
    String before = all(x);
    due("sentence of '" + text + "'", sentence(x, text), -1 - place);
    due("fault() of '" + text + "'", x.fault(), fault);
    due("the tape", x.count(7), 0);
    stays(x, before);
    due("undo()", x.undo(), 1);
  }
  private static void sayable(TwinTrees x, String text, int... items) {
    due("a SENTENCE: " + text, sentence(x, text) > 0, true);
    due(text, x.said(NONE), items.length);
    for (int k = 0; k < items.length; k++) due(text + ", the " + k + "th", x.said(k), items[k]);
    due(text + ", none such", x.said(items.length), NONE);
  }

  // ---------- how long an object lives ----------
  private static void termCalls() {
    test("What it is: an object is used for at most 512 calls");
    TwinTrees x = with(SUMS); // 6 calls: end, three of feed, end, grammar
    for (int i = 6; i < 510; i += 2) { due("merge", x.merge(3, 5), 0); due("undo", x.undo(), 0); }
    due("the 511th", x.odds(6, 1) >= 0, true);
    due("the 512th", x.witness(5), 5);
  }

  // ---------- TOKENS ----------
  private static void termBlanksAre32And10() {
    test("TOKENS: blanks (32, 10)");
    for (int b = 0; b < 256; b++) {
      TwinTrees x = new TwinTrees();
      load(x, "sign" + (char) b + "a;");
      int place = letter(b) || digit(b) ? 0 : 4;
      due("byte " + b, x.grammar(), blank(b) ? 1 : -1 - place);
      due("fault of byte " + b, x.fault(), blank(b) ? 0 : 1);
    }
  }
  private static void termBlanksOrNot() {
    test("TOKENS: with blanks between them or not");
    taken("\n  sign\n\na ;kind s\n; rule s a\n;\n ", 3);
    taken("sign a;kind s;rule s a;", 3);
    bookTaken(" merge\n2 \n4;depth 1 ;drop 1\n;", NONE);
    sentenceTaken("rule<1 or(dot=2)and not(first)", 6);
    refused("signa;", 0, 1);
    refused("kind s;rules;", 7, 1);
  }
  private static void termWords() {
    test("TOKENS: WORDS: small letters, 1 to 7");
    taken("kind z;", 1);
    taken("kind abcdefg;", 1);
    refused("kind abcdefgh;", 5, 1);
    refused("kind abcdefghijklmnop;", 5, 1);
    for (int b = 0; b < 256; b++) {
      TwinTrees x = new TwinTrees();
      load(x, "kind " + (char) b + ";");
      due("byte " + b, x.grammar(), letter(b) ? 1 : blank(b) ? -7 : -6);
      due("fault of byte " + b, x.fault(), letter(b) ? 0 : 1);
    }
  }
  private static void termWordsToldApart() {
    test("TOKENS: WORDS of 1 to 7 small letters: each letter tells");
    taken("kind abcdefg;kind abcdefh;kind bbcdefg;kind abcdef;kind a;", 5);
    refused("kind abcdefg;kind abcdefg;", 18, 3);
  }
  private static void termNumbers() {
    test("TOKENS: NUMBERS: 1 to 3 digits");
    for (String n : new String[] {"0", "9", "00", "42", "000", "009", "999"}) sentenceTaken("dot < " + n, 1);
    sentenceRefused("dot < 0000", 6, 1);
    sentenceRefused("dot < 1000", 6, 1);
    for (int b = 0; b < 256; b++) {
      TwinTrees x = new TwinTrees();
      due("byte " + b, sentence(x, "dot < " + (char) b), digit(b) ? 1 : blank(b) ? -8 : -7);
      due("fault of byte " + b, x.fault(), digit(b) ? 0 : 1);
    }
  }
  private static void termMarks() {
    test("TOKENS: ; < = > ( )");
    for (int b = 0; b < 256; b++) {
      TwinTrees x = with(SUMS);
      boolean joins = letter(b) || digit(b);
      due("between, byte " + b, sentence(x, "rule" + (char) b + "1"), b >= '<' && b <= '>' ? 1 : joins ? -1 : blank(b) ? -6 : -5);
      due("ahead, byte " + b, sentence(x, (char) b + "first)"), b == '(' ? 2 : blank(b) ? -7 : -1);
      due("behind, byte " + b, sentence(x, "(first" + (char) b), b == ')' ? 2 : blank(b) ? -8 : joins ? -2 : -7);
      load(x, "kind s" + (char) b);
      due("the LINE's end, byte " + b, x.grammar(), b == ';' ? 1 : blank(b) || letter(b) ? -8 : digit(b) ? -6 : -7);
    }
  }
  private static void termTokenGoesOn() {
    test("TOKENS: a WORD, NUMBER goes on as long as small letters and digits do; what is not as told is no TOKEN");
    refused("kind a1;", 5, 1);
    refused("kind 1a;", 5, 1);
    refused("kind s;rule s 1a;", 14, 1);
    refused("kind1 s;", 0, 1);
    bookRefused("drop 1drop 1;", 5, 1);
    bookRefused("merge 2 3x;", 8, 1);
    bookRefused("drop 0001;", 5, 1);
    sentenceRefused("dot<1or first", 4, 1);
    sentenceRefused("firstor last", 0, 1);
    sentenceRefused("(first2)", 1, 1);
  }

  // ---------- how long a text may be ----------
  private static void termGrammarOf900Bytes() {
    test("A GRAMMAR is a text of at most 900 bytes");
    taken("kind s;" + blanks(893), 1);
    refused("kind s;" + blanks(894), 900, 1);
    taken(blanks(893) + "kind s;", 1);
    refused(blanks(894) + "kind s;", 900, 1);
    taken(blanks(900), 0);
    refused(blanks(901), 900, 1);
    refused(blanks(940), 900, 1);
  }
  private static void termBookOf400Bytes() {
    test("A BOOK is a text of at most 400 bytes");
    bookTaken("drop 9;" + blanks(393), 0);
    bookRefused("drop 9;" + blanks(394), 400, 1);
    bookTaken(blanks(393) + "drop 9;", 0);
    bookRefused(blanks(394) + "drop 9;", 400, 1);
    bookTaken(blanks(400), NONE);
    bookRefused(blanks(401), 400, 1);
    bookRefused(blanks(940), 400, 1);
  }
  private static void termSentenceOf200Bytes() {
    test("A SENTENCE is a text of at most 200 bytes");
    sentenceTaken("first" + blanks(195), 1);
    sentenceRefused("first" + blanks(196), 200, 1);
    sentenceTaken(blanks(195) + "first", 1);
    sentenceRefused(blanks(196) + "first", 200, 1);
    sentenceRefused(blanks(200), 200, 1);
    sentenceRefused(blanks(940), 200, 1);
  }
  private static void termTokensReadWhole() {
    test("FAULTS: TOKENS that begin ahead of the most bytes are read whole");
    refused(blanks(899) + "kind s;", 900, 1);
    refused(blanks(899) + "kinds s;", 899, 1);
    refused("kind abcdefg;" + blanks(881) + "kind abcdefg;", 899, 3);
    refused("kind abcdefg;" + blanks(882) + "kind abcdefg;", 900, 1);
    refused(blanks(894) + "kind abcdefg;", 900, 1);
    refused(blanks(894) + "kind abcdefgh;", 899, 1);
    bookRefused(blanks(394) + "drop 9;", 400, 1);
    bookRefused(blanks(394) + "drop 10;", 399, 2);
    bookRefused(blanks(394) + "drop 0009;", 399, 1);
    sentenceRefused(blanks(199) + "first", 200, 1);
    sentenceRefused(blanks(199) + "fist", 199, 1);
    sentenceRefused(blanks(193) + "dot < 100", 200, 1);
    sentenceRefused(blanks(193) + "dot < 1000", 199, 1);
  }
  private static void termNoTextAtAll() {
    test("{ LINE ; }: none is fine; COND: ALL: one at least");
    taken("", 0);
    taken("\n \n", 0);
    bookTaken("", NONE);
    bookTaken(" ", NONE);
    sentenceRefused("", 0, 1);
    sentenceRefused("\n \n", 3, 1);
  }

  // ---------- GRAMMAR ----------
  private static void termLines() {
    test("GRAMMAR: { LINE ; }. LINE: 'sign' NAME | 'kind' NAME | 'rule' KIND { SYMBOL }");
    refused(";", 0, 1);
    refused("kind s;;", 7, 1);
    refused("kind;", 4, 1);
    refused("kind s t;", 7, 1);
    refused("sign 1;", 5, 1);
    refused("kind s;rule;", 11, 1);
    refused("kind s;rule s 1;", 14, 1);
    refused("kind s;rule s (;", 14, 1);
    refused("drop 1;", 0, 1);
    refused("first", 0, 1);
    refused("a;", 0, 1);
    refused("1;", 0, 1);
  }
  private static void termSymbols() {
    test("GRAMMAR: 3 SYMBOLS at most; FAULT 4: a fourth SYMBOL (at its first TOKEN)");
    taken("kind s;sign a;rule s;rule s s;rule s s a;rule s s a s;", 6);
    refused("kind s;rule s s s s s;", 20, 4);
    refused("kind s;sign a;rule s s s s a;", 27, 4);
    refused("kind s;rule s s s s s s s;", 20, 4);
    bookTaken("rule s s p s;", NONE);
    bookRefused("rule s s p s p;", 13, 4);
  }
  private static void termToldAhead() {
    test("GRAMMAR: a SYMBOL that was told, of a KIND told ahead; FAULT 3: a NAME not told, or of another sort (at it)");
    taken("kind s;rule s;sign a;rule s a;kind t;rule t s a t;", 6);
    refused("kind s;rule t;kind t;", 12, 3);
    refused("rule s;kind s;", 5, 3);
    refused("kind s;rule s a;sign a;", 14, 3);
    refused("kind s;sign a;rule a;", 19, 3);
    bookRefused("rule t;", 5, 3);
    bookRefused("rule a;", 5, 3);
    bookRefused("rule s t;", 7, 3);
    sentenceRefused("of a", 3, 3);
    sentenceRefused("of t", 3, 3);
    sentenceRefused("next t", 5, 3);
  }
  private static void termNamesReserved() {
    test("NAME: none of those told here, in a BOOK or a SENTENCE");
    for (String w : RESERVED) {
      refused("kind " + w + ";", 5, 1);
      refused("sign " + w + ";", 5, 1);
      refused("kind s;rule " + w + ";", 12, 1);
      refused("kind s;rule s " + w + ";", 14, 1);
      bookRefused("rule " + w + ";", 5, 1);
      bookRefused("rule s " + w + ";", 7, 1);
      sentenceRefused("of " + w, 3, 1);
      sentenceRefused("next " + w, 5, 1);
    }
  }
  private static void termNamesFree() {
    test("NAME: a WORD: all others are NAMES");
    for (String w : new String[] {"is", "a", "start", "end", "signs", "kin", "rules", "lives", "tag", "ands", "no", "empty"}) taken("kind " + w + ";sign z;rule " + w + " " + w + " z;", 3);
  }
  private static void termNamesToldOnce() {
    test("NAME: told once; FAULT 3: a NAME told twice (at it)");
    refused("sign a;sign a;", 12, 3);
    refused("kind a;kind a;", 12, 3);
    refused("sign a;kind a;", 12, 3);
    refused("kind a;sign a;", 12, 3);
    taken("sign s;kind a;rule a s;", 3); // those of the GRAMMAR ahead are not told in it
  }
  private static void termFourSigns() {
    test("GRAMMAR: 4 SIGNS at most; FAULT 4 at the LINE's first WORD");
    taken("sign a;sign b;sign c;sign d;", 4);
    refused("sign a;sign b;sign c;sign d;sign e;", 28, 4);
    refused("sign a;sign b;sign c;sign d;\n sign a;", 30, 4);
    taken("sign a;sign b;sign c;sign d;kind s;", 5);
  }
  private static void termFiveKinds() {
    test("GRAMMAR: 5 KINDS at most; FAULT 4 at the LINE's first WORD");
    taken("kind a;kind b;kind c;kind d;kind e;", 5);
    refused("kind a;kind b;kind c;kind d;kind e;kind f;", 35, 4);
    taken("kind a;kind b;kind c;kind d;kind e;sign f;", 6);
  }
  private static void termTenRules() {
    test("GRAMMAR: 10 RULES at most; FAULT 4 at the LINE's first WORD");
    taken("kind s;" + "rule s;".repeat(10), 11);
    refused("kind s;" + "rule s;".repeat(11), 77, 4);
    taken(FULL, 19);
    refused(FULL + "rule s;", 193, 4);
    refused(FULL + " sign e;", 194, 4);
    refused(FULL + "\n\nkind x;", 195, 4);
  }
  private static void termNumberedFrom0() {
    test("GRAMMAR: SIGNS, KINDS, RULES numbered from 0 each");
    TwinTrees x = with("sign a;kind s;sign b;kind t;sign c;kind u;sign d;kind v;kind w;rule s a d;rule w s w;");
    due("RULE 0, its KIND", x.rule(0, 0), 0);
    due("the first SIGN", x.rule(0, 2), 0);
    due("the last SIGN", x.rule(0, 3), 3);
    due("RULE 1, its KIND", x.rule(1, 0), 4);
    due("the first KIND", x.rule(1, 2), 8);
    due("the last KIND", x.rule(1, 3), 12);
  }
  private static void termRulesAlike() {
    test("GRAMMAR: two RULES may be alike");
    taken("kind s;rule s s;rule s s;", 3);
    TwinTrees x = with("kind s;rule s;rule s;");
    due("two TREES", trees(x), 2);
    bookTaken("rule s a;rule s a;", NONE);
  }

  // ---------- BOOK ----------
  private static void termFortyLines() {
    test("BOOK: 40 LINES at most; FAULT 4: a 41st LINE (at the LINE's first WORD)");
    bookTaken("depth 1;depth 0;".repeat(20), NONE);
    bookRefused("depth 1;depth 0;".repeat(20) + "depth 1;", 320, 4);
    bookRefused("depth 1;depth 0;".repeat(20) + "\ndrop 10;", 321, 4);
    bookRefused("depth 1;depth 0;".repeat(20) + ";", 320, 1);
    TwinTrees x = with(SUMS);
    due("all LINES", book(x, "depth 1;depth 0;".repeat(20), 1), NONE);
    due("ahead", x.told(1), 40);
  }
  private static void termDropNumbers() {
    test("BOOK: 'drop' N (0 to 9); FAULT 2: a NUMBER that is not as told (at it)");
    bookTaken("drop 0;", NONE);
    bookTaken("drop 9;", 0);
    bookTaken("drop 009;", 0);
    bookRefused("drop 10;", 5, 2);
    bookRefused("drop 999;", 5, 2);
    bookRefused("drop 1000;", 5, 1);
    bookRefused("drop;", 4, 1);
    bookRefused("drop 1 1;", 7, 1);
    bookRefused("drop s;", 5, 1);
  }
  private static void termMergeNumbers() {
    test("BOOK: 'merge' N N (2 to 41 each); FAULT 2: a NUMBER that is not as told (at it)");
    bookTaken("merge 2 7;", NONE);
    bookTaken("merge 41 2;", 0);
    bookTaken("merge 2 41;", 0);
    bookRefused("merge 1 2;", 6, 2);
    bookRefused("merge 0 2;", 6, 2);
    bookRefused("merge 42 2;", 6, 2);
    bookRefused("merge 2 1;", 8, 2);
    bookRefused("merge 2 42;", 8, 2);
    bookRefused("merge 2 999;", 8, 2);
    bookRefused("merge 2;", 7, 1);
    bookRefused("merge 2 3 4;", 10, 1);
  }
  private static void termDepthNumbers() {
    test("BOOK: 'depth' N (0, 1); FAULT 2: a NUMBER that is not as told (at it)");
    bookTaken("depth 1;", NONE);
    bookTaken("depth 0;", 0);
    bookRefused("depth 2;", 6, 2);
    bookRefused("depth 999;", 6, 2);
    bookRefused("depth;", 5, 1);
  }
  private static void termRulesInABook() {
    test("FAULT 4: of RULES in a BOOK: none");
    bookTaken("rule s;".repeat(40), 8);
    TwinTrees x = with(FULL);
    due("an 11th RULE", book(x, "rule s;", 1), 0);
    due("no FAULT", x.fault(), 0);
    due("it is WRONG", x.told(0), 1);
  }
  private static void termBookLines() {
    test("BOOK: { LINE ; }: LINES of a GRAMMAR can't come, 'rule' can");
    bookRefused("sign z;", 0, 1);
    bookRefused("kind z;", 0, 1);
    bookRefused(";", 0, 1);
    bookRefused("depth 1", 7, 1);
    bookRefused("depth 1;drop 5  ", 16, 1);
    bookTaken("rule s a p;", NONE);
  }

  // ---------- SENTENCE ----------
  private static void termTwentyOnes() {
    test("SENTENCE: 20 ONES; FAULT 4: a 21st ONE (at its first TOKEN)");
    sentenceTaken("last" + " or last".repeat(19), 20);
    sentenceRefused("last" + " or last".repeat(20), 160, 4);
    sentenceTaken("not last" + " or not last".repeat(9), 20);
    sentenceRefused("not last" + " or not last".repeat(9) + " or (last)", 120, 4);
    sentenceTaken("(last)" + "and(last)".repeat(9), 20);
    sentenceRefused("(last)" + "and(last)".repeat(9) + "and not last", 91, 4);
    sentenceRefused("last" + " or last".repeat(18) + " or not last", 156, 4);
    sentenceRefused("last" + " or last".repeat(18) + " or (last)", 153, 4);
  }
  private static void termTwentyOnesAllTell() {
    test("SENTENCE: 20 ONES: each of them tells");
    TwinTrees x = with(SUMS);
    sayable(x, "first" + " and dot<9".repeat(18) + " and rule=1", 6);
    sayable(x, "rule>0" + " and dot<9".repeat(18) + " and last", 7);
    sayable(x, "dot>9" + " or dot>9".repeat(18) + " or last", 5, 7);
    sayable(x, "not last" + " and not last".repeat(8) + " and not first", 3, 4);
    sayable(x, "(".repeat(7) + "first" + " or last".repeat(11) + ")".repeat(7) + "and rule < 1", 2, 5);
  }
  private static void termEightWithin() {
    test("SENTENCE: 8 within one another; FAULT 4: a ninth within (at its first TOKEN)");
    sentenceTaken("not ".repeat(7) + "first", 8);
    sentenceRefused("not ".repeat(8) + "first", 32, 4);
    sentenceTaken("(".repeat(7) + "first" + ")".repeat(7), 8);
    sentenceRefused("(".repeat(8) + "first" + ")".repeat(8), 8, 4);
    sentenceTaken("not (".repeat(3) + "not first" + ")".repeat(3), 8);
    sentenceRefused("not (".repeat(4) + "first" + ")".repeat(4), 20, 4);
    sentenceTaken("(".repeat(7) + "first or last and alone" + ")".repeat(7), 10);
    sentenceRefused("(".repeat(7) + "first or not last" + ")".repeat(7), 20, 4);
    sentenceTaken("(".repeat(7) + "first" + ")".repeat(7) + "and" + "(".repeat(7) + "last" + ")".repeat(7), 16);
  }
  private static void termOnes() {
    test("SENTENCE: COND: ALL { 'or' ALL }. ALL: ONE { 'and' ONE }. ONE");
    sentenceRefused("(first", 6, 1);
    sentenceRefused("first)", 5, 1);
    sentenceRefused("()", 1, 1);
    sentenceRefused("first last", 6, 1);
    sentenceRefused("first or", 8, 1);
    sentenceRefused("first and or last", 10, 1);
    sentenceRefused("or first", 0, 1);
    sentenceRefused("not", 3, 1);
    sentenceRefused("first;", 5, 1);
    sentenceRefused("5", 0, 1);
    sentenceRefused("of", 2, 1);
    sentenceRefused("of 1", 3, 1);
    sentenceRefused("next", 4, 1);
    sentenceRefused("rule 1", 5, 1);
    sentenceRefused("dot <", 5, 1);
    sentenceRefused("dot < s", 6, 1);
    sentenceRefused("number = = 1", 9, 1);
    sentenceRefused("sign < 1", 0, 1);
  }
  private static void termSaidOf() {
    test("SENTENCE: what is said of ITEMS (from 2 on)");
    TwinTrees x = with("sign a;kind s;kind t;rule s a t;rule t;rule t s;");
    sayable(x, "first", 2, 5, 6);
    sayable(x, "last", 4, 5, 7);
    sayable(x, "alone", 2, 3, 4, 5, 6, 7);
    sayable(x, "of t", 5, 6, 7);
    sayable(x, "next a", 2);
    sayable(x, "next t", 3);
    sayable(x, "number > 0", 2, 3, 4, 5, 6, 7);
    sayable(x, "number < 2");
    sayable(x, "number = 7", 7);
    sayable(x, "number > 6", 7);
    sayable(x, "number < 3", 2);
    sayable(x, "dot = 2", 4);
    sayable(x, "dot < 1", 2, 5, 6);
    sayable(x, "rule > 1", 6, 7);
    sayable(x, "rule = 999");
    x.merge(2, 7);
    sayable(x, "alone", 3, 4, 5, 6);
  }
  private static void termSaidTogether() {
    test("SENTENCE: 'or' of ALL, 'and' of ONES, 'not' of ONE");
    TwinTrees x = with(SUMS);
    sayable(x, "first or last and rule = 0", 2, 5, 6);
    sayable(x, "(first or last) and rule = 0", 2, 5);
    sayable(x, "not first or last", 3, 4, 5, 7);
    sayable(x, "rule = 0 and (first)", 2);
    sayable(x, "rule = 0 and (first or last)", 2, 5);
    sayable(x, "rule = 1 or not (first or dot = 1) and alone", 4, 5, 6, 7);
    sayable(x, "not (first or last)", 3, 4);
    sayable(x, "not first and not last", 3, 4);
    sayable(x, "not not first", 2, 6);
    sayable(x, "first and last");
    sayable(x, "rule = 1 and last or first and rule = 0", 2, 7);
  }
  private static void termNumbersOfASentence() {
    test("SENTENCE: ( 'rule' | 'dot' | 'number' ) SIGN NUMBER: all of 1 to 3 digits are as told");
    for (int n : new int[] {0, 1, 9, 10, 41, 42, 99, 100, 998, 999}) { sentenceTaken("rule<" + n, 1); sentenceTaken("dot=" + n, 1); sentenceTaken("number>" + n, 1); }
  }

  // ---------- FAULTS ----------
  private static void termFirstFault() {
    test("FAULTS, the first along the text");
    refused("kind s;rule t t;kind s;", 12, 3);
    refused("kind s;kind s;rule t", 12, 3);
    refused("sign a;sign b;sign c;sign d;sign 5", 28, 4);
    refused("kind s;!" + blanks(900), 7, 1);
    bookRefused("drop 10;merge 1 1;?", 5, 2);
    sentenceRefused("of a or fist", 3, 3);
  }
  private static void termLeastFault() {
    test("FAULTS, of one TOKEN the least");
    refused("kind s;rule s s s s t;", 20, 3);
    refused("kind s;rule s s s s and;", 20, 1);
    refused("kind s;rule s s s s 5;", 20, 1);
    bookRefused("rule s s s s t;", 13, 3);
    bookRefused("rule s s s s not;", 13, 1);
    bookRefused("depth 1;depth 0;".repeat(20) + "sign", 320, 1);
    bookRefused("drop 1000;", 5, 1);
    sentenceRefused("last" + " or last".repeat(19) + " or fist", 160, 1);
    sentenceRefused("not ".repeat(8) + "fist", 32, 1);
    sentenceRefused("not ".repeat(8), 32, 1);
  }
  private static void termFaultAtTheEnd() {
    test("FAULT 1: one that can't come, at the end: how many bytes there are");
    refused("kind", 4, 1);
    refused("kind s", 6, 1);
    refused("kind s  \n", 9, 1);
    refused("kind s;rule s" + blanks(887), 900, 1);
    bookRefused("drop 1", 6, 1);
    bookRefused("merge 2 ", 8, 1);
    sentenceRefused("first and  ", 11, 1);
    sentenceRefused("rule <", 6, 1);
  }
  private static void termFaultAtTheMost() {
    test("FAULT 1 at the most bytes, if there are more and no FAULT is ahead");
    refused("kind s;rule s" + blanks(888), 900, 1);
    refused("kind s" + blanks(895), 900, 1);
    refused("kind s;" + blanks(893) + "!", 900, 1);
    bookRefused("drop 1" + blanks(395), 400, 1);
    sentenceRefused("first or" + blanks(193), 200, 1);
    sentenceRefused("first" + blanks(195) + ")", 200, 1);
  }

  // ---------- ITEMS, CLASSES ----------
  private static void termItems() {
    test("ITEMS: 0 is START, 1 END; from 2 on RULE by RULE, dot by dot");
    TwinTrees x = with(FULL);
    due("how many", x.count(3), 42);
    due("START", x.item(0, 0), NONE);
    due("END", x.item(1, 0), NONE);
    due("the first", x.item(2, 0), 0);
    due("its dot", x.item(2, 1), 0);
    for (int r = 0; r < 10; r++) due("the first of RULE " + r, x.rule(r, 5), 2 + 4 * r);
    due("the last", x.item(41, 0), 9);
    due("its dot", x.item(41, 1), 3);
    due("beyond", x.item(42, 0), NONE);
    TwinTrees y = with("kind s;rule s;rule s s;rule s;");
    due("of a RULE without SYMBOLS", y.rule(1, 5), 3);
    due("of the one behind", y.rule(2, 5), 5);
    due("how many", y.count(3), 6);
    due("without RULES", new TwinTrees().count(3), 2);
  }
  private static void termNextSymbol() {
    test("ITEMS: its NEXT SYMBOL is behind (none at the last dot); NEXT of START is KIND 0");
    TwinTrees x = with("sign a;kind s;kind t;rule t t a;rule s;");
    int[] next = {8, NONE, 9, 0, NONE, NONE};
    for (int i = 0; i < next.length; i++) due("NEXT of " + i, x.item(i, 2), next[i]);
    due("without KINDS", new TwinTrees().item(0, 2), NONE);
    due("without RULES", with("kind s;").item(0, 2), 8);
  }
  private static void termClasses() {
    test("CLASS, told by its least ITEM; alone at first; two are MERGED: those of both are in one");
    TwinTrees x = with(FULL);
    for (int i = 0; i < 42; i++) due("alone, " + i, x.item(i, 3) * 100 + x.item(i, 4), i * 100 + 1);
    for (int i = 41; i > 2; i--) due("merge", x.merge(i, i - 1), 0);
    for (int i = 2; i < 42; i++) due("all in one, " + i, x.item(i, 3) * 100 + x.item(i, 4), 240);
    due("START", x.item(0, 4), 1);
    due("END", x.item(1, 3) * 100 + x.item(1, 4), 101);
    due("CLASSES", x.count(4), 3);
    TwinTrees y = with(SUMS);
    y.merge(7, 4);
    y.merge(6, 5);
    due("two of two", y.merge(5, 7), 0);
    for (int i : new int[] {4, 5, 6, 7}) due("both in one, " + i, y.item(i, 3) * 100 + y.item(i, 4), 404);
    due("CLASSES", y.count(4), 5);
  }
  private static void termStartAndEndAlone() {
    test("ITEMS: START and END stay alone");
    TwinTrees x = with(SUMS);
    for (int i = 0; i < 8; i++) for (int j = 0; j < 2; j++) {
      due("merge(" + i + ", " + j + ")", x.merge(i, j), NONE);
      due("merge(" + j + ", " + i + ")", x.merge(j, i), NONE);
    }
    due("CLASSES", x.count(4), 8);
    due("nothing to undo", x.undo(), NONE);
  }

  // ---------- PLACES ----------
  private static void termPlacesOfDepth0() {
    test("PLACES, by DEPTH 0: the CLASSES: START, END, the others by their number");
    TwinTrees x = with(FULL);
    due("all", x.count(5), 42);
    due("START", x.place(0, 0), 0);
    due("END", x.place(1, 0), 1);
    due("the last", x.place(41, 0), 41);
    x.merge(2, 3);
    x.merge(40, 41);
    due("MERGED", x.count(5), 40);
    due("behind one MERGED", x.place(3, 0), 4);
    due("the last", x.place(39, 0), 40);
    due("none behind", x.place(40, 0), NONE);
    due("without RULES", new TwinTrees().count(5), 2);
  }
  private static void termPlacesOfDepth1() {
    test("PLACES, by DEPTH 1: START, END, then by CLASS, then by CLASS of the CALLER");
    TwinTrees x = with(SUMS);
    x.depth(1);
    due("how many", x.count(5), 20);
    int[] callers = {0, 2, 4};
    for (int p = 2; p < 20; p++) {
      due("CLASS of " + p, x.place(p, 0), 2 + (p - 2) / 3);
      due("CALLER of " + p, x.place(p, 1), callers[(p - 2) % 3]);
    }
    due("CALLER of START", x.place(0, 1), NONE);
    due("CALLER of END", x.place(1, 1), NONE);
    x.merge(2, 4);
    due("one CLASS of CALLERS less", x.count(5), 2 + 5 * 2);
    TwinTrees y = with("sign a;kind s;kind t;kind u;rule s t;rule t a;rule u t;rule u u;");
    y.depth(1);
    // s by START; t by 2 and 6; u by 8 alone, which none makes
    due("by those alone from which it can be", y.count(5), 2 + 2 + 2 * 2 + 4);
    due("without RULES", depth1(new TwinTrees()).count(5), 2);
    due("of a KIND that is NEXT nowhere", depth1(with("sign a;kind s;kind t;rule t a;")).count(5), 2);
  }
  private static TwinTrees depth1(TwinTrees x) { due("depth", x.depth(1), 0); return x; }
  private static void termEightyPlaces() {
    test("PLACES: 80 at most: else they are TOO MANY");
    TwinTrees x = depth1(with(EIGHTY));
    due("80", x.count(5), 80);
    due("the last", x.place(79, 0), 14);
    due("behind", x.place(80, 0), NONE);
    due("80, not PROVEN", x.proven(), 0);
    due("80, REACHED", x.twin(0, 0, 0), 1);
    due("one more", add(x, 1), 0);
    due("81", x.count(5), NONE);
    due("81, other ITEMS stay", x.count(3), 16);
    due("by DEPTH 0", x.depth(0), 0);
    due("fewer", x.count(5), 16);
    due("undone", x.undo(), 2);
    due("again", x.count(5), NONE);
    due("two CALLERS in one CLASS", x.merge(3, 4), 0);
    due("fewer", x.count(5), 2 + 12 * 5 + 1);
    due("undone", x.undo(), 2);
    due("again", x.count(5), NONE);
    due("undone", x.undo(), 1);
    due("80 again", x.count(5), 80);
  }
  private static void termTooMany() {
    test("TOO MANY PLACES: place(), step(), twins(), twin(), suspects(), suspectAt(), proven(), shadow(), count(5) are NONE");
    TwinTrees x = depth1(with(EIGHTY));
    add(x, 1);
    for (int w = 0; w <= 3; w++) { due("place", x.place(0, w), NONE); due("twins", x.twins(w), NONE); due("suspects", x.suspects(w), NONE); due("suspectAt", x.suspectAt(0, w), NONE); due("twin", x.twin(0, 0, w), NONE); }
    due("step", x.step(0, 0, 0), NONE);
    due("step", x.step(0, 0, 1), NONE);
    due("proven", x.proven(), NONE);
    due("shadow", x.shadow(), NONE);
    due("count", x.count(5), NONE);
    due("ITEMS are as ever", x.item(15, 0), 4);
    due("KINDS are as ever", x.kind(1, 1), 1);
    due("WITNESS is as ever", x.witness(0), 0);
    due("SENTENCES are as ever", sentence(x, "of t"), 1);
    due("SENTENCES are as ever", x.said(0), 15);
  }

  // ---------- STEPS ----------
  private static void steps(TwinTrees x, int p, int... want) {
    due("STEPS of " + p, x.place(p, 2), want.length / 2);
    for (int k = 0; k * 2 < want.length; k++) { due("STEP " + k + " of " + p, x.step(p, k, 0), want[2 * k]); due("STEP " + k + " of " + p + ", to", x.step(p, k, 1), want[2 * k + 1]); }
    due("STEPS of " + p + ", behind", x.step(p, want.length / 2, 0), NONE);
    due("STEPS of " + p + ", behind", x.step(p, want.length / 2, 1), NONE);
  }
  private static void termStepsOfDepth0() {
    test("STEPS, by DEPTH 0: a SIGN, OPENING, CLOSING behind each ITEM whose NEXT is its KIND; behind START: END");
    TwinTrees x = with("sign a;sign b;kind s;kind t;rule s b t;rule t;rule t a s;");
    // 2 .b t, 3 b.t, 4 b t., 5 ., 6 .a s, 7 a.s, 8 a s.
    steps(x, 0, 16, 2);
    steps(x, 1);
    steps(x, 2, 1, 3);
    steps(x, 3, 17, 5, 18, 6);
    steps(x, 4, 32, 1, 32, 8);
    steps(x, 5, 33, 4);
    steps(x, 6, 0, 7);
    steps(x, 7, 16, 2);
    steps(x, 8, 34, 4);
    // KIND 1 is NEXT nowhere: 2 .a, 3 a., 4 .s, 5 s.
    TwinTrees y = with("sign a;kind s;kind t;rule s a;rule t s;");
    steps(y, 3, 32, 1, 32, 5);
    steps(y, 4, 16, 2);
    steps(y, 5);
  }
  private static void termStepsOfDepth1() {
    test("STEPS, by DEPTH 1: behind the CALLER alone, of the CLASS of each CALLER from which that ITEM itself can be");
    TwinTrees x = depth1(with("sign a;kind s;kind t;rule s t;rule t a;rule t s;"));
    // s (2 .t, 3 t.) by START and 6 (.s); t (4 .a, 5 a., 6 .s, 7 s.) by 2
    int[][] places = {{0, NONE}, {1, NONE}, {2, 0}, {2, 6}, {3, 0}, {3, 6}, {4, 2}, {5, 2}, {6, 2}, {7, 2}};
    due("how many", x.count(5), places.length);
    for (int p = 0; p < places.length; p++) { due("CLASS of " + p, x.place(p, 0), places[p][0]); due("CALLER of " + p, x.place(p, 1), places[p][1]); }
    steps(x, 0, 16, 2);
    steps(x, 1);
    steps(x, 2, 17, 6, 18, 8);
    steps(x, 3, 17, 6, 18, 8);
    steps(x, 4, 32, 1);
    steps(x, 5, 32, 9);
    steps(x, 6, 0, 7);
    steps(x, 7, 33, 4, 33, 5);
    steps(x, 8, 16, 3);
    steps(x, 9, 34, 4, 34, 5);
  }
  private static void termStepsOnce() {
    test("STEPS: of one PLACE a STEP of one sort to one PLACE is there once; END has none");
    TwinTrees x = with("sign a;kind s;rule s a;rule s a;");
    x.merge(2, 4);
    x.merge(3, 5);
    steps(x, 0, 16, 2, 17, 2);
    steps(x, 1);
    steps(x, 2, 0, 3);
    steps(x, 3, 32, 1, 33, 1);
    due("one PLACE by two STEPS", x.place(2, 3), 1);
    due("one PLACE by two STEPS", x.place(1, 3), 1);
    due("none to START", x.place(0, 3), 0);
  }
  private static void termStepsInOrder() {
    test("step(): SIGNS by number first, then OPENING by RULE, then CLOSING by RULE, each by where it goes");
    TwinTrees x = with("sign a;sign b;kind s;rule s b s;rule s a;");
    for (int i = 3; i <= 6; i++) x.merge(2, i);
    steps(x, 2, 0, 2, 1, 2, 16, 2, 17, 2, 32, 1, 32, 2, 33, 1, 33, 2);
    due("from itself, too", x.place(2, 3), 2);
    TwinTrees y = with("sign a;kind s;rule s a a;");
    y.merge(2, 3);
    steps(y, 2, 0, 2, 0, 3);
  }
  private static void termStepsOfStart() {
    test("STEPS: START OPENS each RULE of KIND 0; there may be none");
    steps(new TwinTrees(), 0);
    steps(with("kind s;kind t;rule t;"), 0);
    steps(with("kind s;kind t;rule t;rule s;"), 0, 17, 3);
  }
  private static void termLastSortsOfSteps() {
    test("STEPS: the last SIGN is 3, the last RULE OPENS by 25 and CLOSES by 41");
    TwinTrees x = with("sign a;sign b;sign c;sign d;kind s;" + "rule s;".repeat(9) + "rule s d;");
    due("START's", x.place(0, 2), 10);
    due("the last OPENING", x.step(0, 9, 0), 25);
    due("to", x.step(0, 9, 1), 11);
    steps(x, 11, 3, 12);
    steps(x, 12, 41, 1);
  }

  // ---------- TWINS ----------
  private static void termFirstTwins() {
    test("TWINS: the first: START, START, 0 are REACHED");
    for (TwinTrees x : new TwinTrees[] {new TwinTrees(), with("kind s;"), with(SUMS)}) due("twin", x.twin(0, 0, 0), 1);
    TwinTrees y = new TwinTrees();
    due("no others", y.twins(0) * 1000 + y.twins(1) * 100 + y.twins(2) * 10 + y.twins(3), 1000);
    due("END, END, 0", y.twin(1, 1, 0), 0);
  }
  private static void termMeeting() {
    test("TWINS: they MEET: END, END, 1; a SUSPECT, too");
    TwinTrees x = with("kind s;rule s;rule s;");
    // apart by unlike OPENING: (2, 3) and (3, 2), then each CLOSES alone
    due("STAGE 0", x.twins(0), 4);
    due("STAGE 1", x.twins(1), 7);
    due("END, END, 1", x.twin(1, 1, 1), 2);
    due("END, END, 0", x.twin(1, 1, 0), 1);
    due("SUSPECTS", x.suspects(1), 7);
    due("the first of them", x.suspectAt(0, 0) * 100 + x.suspectAt(0, 1) * 10 + x.suspectAt(0, 2), 111);
    due("not PROVEN", x.proven(), 0);
  }
  private static void termAloneBesideEnd() {
    test("TWINS: from STAGE 0 one alone by a STEP that is no SIGN, while the other one is END: 1");
    TwinTrees x = with("sign a;kind s;rule s a s;rule s a;");
    // behind one SIGN both CLOSE rule 1: one to END, one behind 3, where rule 0 CLOSES: no other way leads to the MEETING
    due("END and 4", x.twin(1, 4, 0), 1);
    due("4 and END", x.twin(4, 1, 0), 1);
    due("the MEETING", x.twin(1, 1, 1), 2);
    due("SHADOW", x.shadow(), 1);
    due("STAGE 2", x.twins(2), 0);
    due("STAGE 3", x.twins(3), 0);
  }
  private static void termAloneBesideASign() {
    test("TWINS: from STAGE 0 one alone, while the other one has a SIGN among its STEPS: 2 (the left goes), 3 (the right)");
    TwinTrees x = with("sign a;kind s;rule s a;rule s a a;");
    due("merge", x.merge(3, 5), 0);
    // 3 goes on by the SIGN to 5 or CLOSES to END
    int[] how = {6, 9, 1, 1};
    for (int stage = 0; stage <= 3; stage++) due("STAGE " + stage, x.twins(stage), how[stage]);
    due("left", x.twin(1, 3, 2), 1);
    due("right", x.twin(3, 1, 3), 1);
    due("not the left by 3", x.twin(1, 3, 3), 0);
    due("not the right by 2", x.twin(3, 1, 2), 0);
    due("MEETING", x.shadow(), 1);
    due("no SUSPECTS of 2", x.suspects(2), 0);
  }
  private static void termFromStages2And3() {
    test("TWINS: from 2 (3) the left (right) one alone: 2 (3), both by like SIGNS: 1");
    TwinTrees x = with("sign a;kind s;kind t;rule s t t;rule t a;rule t;");
    due("merge", x.merge(5, 7), 0);
    due("some", x.twins(2) > 0, true);
    due("left as right", x.twins(3), x.twins(2));
    due("SUSPECTS", x.suspects(2) > 0, true);
    due("left as right", x.suspects(3), x.suspects(2));
    int left = 0;
    for (int p = 0; p < 7; p++) for (int q = 0; q < 7; q++) if (x.twin(p, q, 2) > 0) { left++; due("the other way round", x.twin(q, p, 3), x.twin(p, q, 2)); }
    due("all of STAGE 2", left, x.twins(2));
  }
  private static void termShadow() {
    test("SHADOW: the fewest SIGNS on a way from the first TWINS to the MEETING");
    due("none at all", with("kind s;rule s;rule s;").shadow(), 0);
    due("one", with("sign a;kind s;rule s a;rule s a;").shadow(), 1);
    due("three", with("sign a;sign b;kind s;rule s a b a;rule s a b a;").shadow(), 3);
    due("by DEPTH 0", with(SUMS).shadow(), 1);
    due("by DEPTH 1", depth1(with(SUMS)).shadow(), 3);
    due("the fewer of two ways", with("sign a;kind s;rule s a a a;rule s a a a;rule s a a;rule s a a;").shadow(), 2);
    due("no way", with(PAIRS).shadow(), NONE);
  }

  /** An object with a GRAMMAR behind the acts that a BOOK tells. */
  private static TwinTrees lived(String grammar, String acts) {
    TwinTrees x = with(grammar);
    due("acts: " + acts, book(x, acts, 1), NONE);
    return x;
  }
  /** STEPS of all PLACES, as they are told: of each PLACE which ones, to where. */
  private static int[][] stepsTold(String grammar, String acts, int places) {
    int[][] told = new int[places][];
    TwinTrees x = null;
    for (int p = 0; p < places; p++) {
      if (p % 8 == 0) x = lived(grammar, acts);
      told[p] = new int[2 * Math.max(0, x.place(p, 2))];
      for (int i = 0; i < told[p].length; i++) told[p][i] = x.step(p, i / 2, i % 2);
    }
    return told;
  }
  /** Goes by the STEPS told, in the plainest way: of TWINS (the first PLACE, the second, the STAGE) the fewest SIGNS, or NONE. */
  private static final class Followed {
    final int[][] steps;
    final int n;
    final int[] fewest;
    final boolean[] suspect;
    private final ArrayDeque<Integer> todo = new ArrayDeque<>();
    private int signs;
    private int from;
    private boolean back;
    private boolean more;
    Followed(int[][] steps) {
      this.steps = steps;
      n = steps.length;
      fewest = new int[n * n * 4];
      suspect = new boolean[n * n * 4];
      Arrays.fill(fewest, NONE);
      fewest[0] = 0;
      todo.add(0);
      while (!todo.isEmpty()) { from = todo.pollFirst(); signs = fewest[from]; go(from / 4 / n, from / 4 % n, from % 4); }
      int meeting = at(1, 1, 1);
      suspect[meeting] = fewest[meeting] != NONE;
      back = true;
      for (more = suspect[meeting]; more; ) { more = false; for (from = 0; from < fewest.length; from++) if (from % 4 > 0 && fewest[from] != NONE && !suspect[from]) go(from / 4 / n, from / 4 % n, from % 4); }
    }
    int at(int p, int q, int stage) { return (p * n + q) * 4 + stage; }
    private void come(int p, int q, int stage, int sign) {
      int to = at(p, q, stage);
      if (back) { if (suspect[to] && !suspect[from]) { suspect[from] = true; more = true; } return; }
      if (fewest[to] != NONE && fewest[to] <= signs + sign) return;
      fewest[to] = signs + sign;
      if (sign == 0) todo.addFirst(to); else todo.addLast(to);
    }
    private boolean hasSign(int p) { return steps[p].length > 0 && steps[p][0] < 16; }
    private void go(int p, int q, int stage) {
      for (int i = 0; i < steps[p].length; i += 2) for (int j = 0; j < steps[q].length; j += 2) {
        boolean like = steps[p][i] == steps[q][j], sign = steps[p][i] < 16;
        if (like && (stage == 0 || sign)) come(steps[p][i + 1], steps[q][j + 1], stage == 0 ? 0 : 1, sign ? 1 : 0);
        if (!like && stage == 0 && !sign && steps[q][j] >= 16) come(steps[p][i + 1], steps[q][j + 1], 1, 0);
      }
      for (int i = 0; i < steps[p].length && stage != 3; i += 2) if (steps[p][i] >= 16) {
        if (stage > 0) come(steps[p][i + 1], q, stage, 0);
        else if (q == 1) come(steps[p][i + 1], q, 1, 0);
        else if (hasSign(q)) come(steps[p][i + 1], q, 2, 0);
      }
      for (int j = 0; j < steps[q].length && stage != 2; j += 2) if (steps[q][j] >= 16) {
        if (stage > 0) come(p, steps[q][j + 1], stage, 0);
        else if (p == 1) come(p, steps[q][j + 1], 1, 0);
        else if (hasSign(p)) come(p, steps[q][j + 1], 3, 0);
      }
    }
  }
  private static void followedAlike(String grammar, String acts, int places) {
    TwinTrees x = lived(grammar, acts);
    due("PLACES", x.count(5), places);
    Followed f = new Followed(stepsTold(grammar, acts, places));
    int[] reached = new int[4], suspects = new int[4];
    int all = 0;
    for (int t = 0; t < f.fewest.length; t++) {
      if (f.fewest[t] != NONE) reached[t % 4]++;
      if (!f.suspect[t]) continue;
      suspects[t % 4]++;
      if (all % 50 == 0) due("the " + all + "th SUSPECT", f.at(x.suspectAt(all, 0), x.suspectAt(all, 1), x.suspectAt(all, 2)), t);
      all++;
    }
    for (int p = 0; p < f.n; p++) {
      int come = 0;
      for (int[] told : f.steps) { boolean comes = false; for (int i = 1; i < told.length; i += 2) comes |= told[i] == p; if (comes) come++; }
      due("how many come to PLACE " + p, x.place(p, 3), come);
    }
    for (int stage = 0; stage < 4; stage++) { due("REACHED of " + stage, x.twins(stage), reached[stage]); due("SUSPECTS of " + stage, x.suspects(stage), stage == 0 ? NONE : suspects[stage]); }
    due("none behind", x.suspectAt(all, 0), NONE);
    due("SHADOW", x.shadow(), f.fewest[f.at(1, 1, 1)]);
    due("PROVEN", x.proven(), f.fewest[f.at(1, 1, 1)] == NONE ? 1 : 0);
    TwinTrees y = lived(grammar, acts);
    for (int t = 0; t < 400; t++) {
      int twins = (f.fewest.length - 1 - t * t * 131) % f.fewest.length;
      if (twins < 0) twins += f.fewest.length;
      due("twin " + twins, y.twin(twins / 4 / f.n, twins / 4 % f.n, twins % 4), f.suspect[twins] ? 2 : f.fewest[twins] != NONE ? 1 : 0);
    }
  }
  private static void termTwinsOfEightyPlaces() {
    test("TWINS, REACHED, SUSPECTS, SHADOW of as many PLACES as there may be");
    followedAlike(EIGHTY, "depth 1;", 80);
    String two = "sign a;sign b;sign c;sign d;kind s;kind t;kind u;rule s a b a;rule t u a b;rule u;rule s u s b;rule t b s c;rule t u;rule s c b;rule s s c s;";
    followedAlike(two, "depth 1;", 80);
    String three = "sign a;kind s;kind t;rule s a a t;rule t;rule t a a t;rule t t a a;rule t;rule s t a t;rule t a a a;rule t;";
    followedAlike(three, "depth 1;merge 9 10;", 80);
    String four = "sign a;sign b;sign c;sign d;kind s;kind t;rule s s t b;rule t s;rule t c d t;rule s t;rule t b s;rule s;rule s a s c;";
    followedAlike(four, "depth 1;merge 5 4;merge 7 12;", 79);
    followedAlike(four, "merge 5 4;merge 7 12;", 20);
    followedAlike(FULL, "merge 2 41;", 41);
    followedAlike(PAIRS, "depth 1;", 12);
  }
  /** A GRAMMAR by chance: some SYMBOLS more are SIGNS than KINDS. */
  private static String anyGrammar(Random chance) {
    String signs = "abcd".substring(0, 1 + chance.nextInt(4)), kinds = "stuvw".substring(0, 1 + chance.nextInt(4));
    StringBuilder b = new StringBuilder();
    for (char c : signs.toCharArray()) b.append("sign ").append(c).append(';');
    for (char c : kinds.toCharArray()) b.append("kind ").append(c).append(';');
    for (int rules = kinds.length() + chance.nextInt(11 - kinds.length()), r = 0; r < rules; r++) {
      b.append("rule ").append(kinds.charAt(r < kinds.length() ? r : chance.nextInt(kinds.length())));
      for (int t = chance.nextInt(4); t > 0; t--) { String from = chance.nextInt(5) < 2 ? kinds : signs; b.append(' ').append(from.charAt(chance.nextInt(from.length()))); }
      b.append(';');
    }
    return b.toString();
  }
  private static void termTwinsOfManyPlaces() {
    test("PLACES, TWINS, REACHED, SUSPECTS, SHADOW of more than 64 PLACES");
    Random chance = new Random(11);
    for (int done = 0; done < 40; ) {
      String grammar = anyGrammar(chance);
      TwinTrees x = with(grammar);
      StringBuilder acts = new StringBuilder("depth 1;");
      x.depth(1);
      int items = x.count(3) - 2;
      for (int i = chance.nextInt(4); i > 0 && items > 0; i--) { int p = 2 + chance.nextInt(items), q = 2 + chance.nextInt(items); if (x.merge(p, q) == 0) acts.append("merge ").append(p).append(' ').append(q).append(';'); }
      if (x.count(5) <= 64) continue;
      followedAlike(grammar, acts.toString(), x.count(5));
      done++;
    }
  }

  // ---------- TREES ----------
  private static void tree(TwinTrees x, int k, int... rules) {
    due("TREE " + k, x.tree(k), rules.length);
    for (int i = 0; i < rules.length; i++) due("TREE " + k + " at " + i, x.treeAt(i), rules[i]);
    due("TREE " + k + ", behind", x.treeAt(rules.length), NONE);
  }
  private static void termTwoOfOneKind() {
    test("TREES: going down, of all that have one and the same part of the row at most two are of one KIND");
    TwinTrees x = with("sign a;kind s;rule s s;rule s a;");
    due("s or s, s", trees(x, 0), 2);
    tree(x, 0, 0, 1);
    tree(x, 1, 1);
    TwinTrees y = with("sign a;kind s;kind t;rule s t;rule t s;rule t a;");
    due("s, t or s, t, s, t", trees(y, 0), 2);
    tree(y, 0, 0, 1, 0, 2);
    tree(y, 1, 0, 2);
    TwinTrees z = with("kind s;rule s s s;rule s;");
    due("parts of no SIGN beside one another", trees(z), 2);
    tree(z, 0, 0, 1, 1);
    tree(z, 1, 1);
    TwinTrees v = with("sign a;kind s;rule s;rule s s s;rule s a;");
    due("parts of none beside one SIGN", trees(v, 0), 5);
    tree(v, 0, 1, 0, 2);
    tree(v, 1, 1, 1, 0, 0, 2);
    tree(v, 2, 1, 2, 0);
    tree(v, 3, 1, 2, 1, 0, 0);
    tree(v, 4, 2);
    TwinTrees w = with("sign a;kind s;rule s s a;rule s;");
    due("another part each", trees(w, 0, 0, 0, 0), 1);
    tree(w, 0, 0, 0, 0, 0, 1);
    due("all of KINDS that make themselves", trees(with("kind s;rule s s;")), 0);
  }
  private static void termTwoOfEachKind() {
    test("TREES: two of each of five KINDS have one and the same part, and no more");
    String rules = "kind s;kind t;kind u;kind v;kind w;rule s t;rule t u;rule u v;rule v w;rule w t;rule w s;rule s";
    TwinTrees x = with("sign a;" + rules + " a;");
    due("of one SIGN", trees(x, 0), 3);
    tree(x, 0, 0, 1, 2, 3, 4, 1, 2, 3, 5, 6);
    tree(x, 1, 0, 1, 2, 3, 5, 6);
    tree(x, 2, 6);
    TwinTrees y = with(rules + ";");
    due("of no SIGN", trees(y), 3);
    tree(y, 0, 0, 1, 2, 3, 4, 1, 2, 3, 5, 6);
    tree(y, 1, 0, 1, 2, 3, 5, 6);
    tree(y, 2, 6);
  }
  private static void termTreesInOrder() {
    test("TREES in order: by RULE, the end of the first part, the second, .. (the least first), then by the TREE of its first KIND, ..");
    TwinTrees x = with("sign a;kind s;kind t;rule s t t t;rule t a;rule t;rule s t t;");
    due("of one SIGN", trees(x, 0), 5);
    tree(x, 0, 0, 2, 2, 1);
    tree(x, 1, 0, 2, 1, 2);
    tree(x, 2, 0, 1, 2, 2);
    tree(x, 3, 3, 2, 1);
    tree(x, 4, 3, 1, 2);
    TwinTrees y = with("sign a;kind s;kind t;kind u;rule s t u t;rule t a;rule t a;rule u a;rule u a;");
    due("the first is changed last", trees(y, 0, 0, 0), 8);
    for (int k = 0; k < 8; k++) tree(y, k, 0, 1 + (k >> 2), 3 + (k >> 1 & 1), 1 + (k & 1));
    TwinTrees z = with("sign a;kind s;kind t;kind u;rule s t u;rule t;rule t a;rule t a;rule u a;rule u a a;rule u a a;rule u;");
    due("ends ahead of TREES", trees(z, 0, 0), 4);
    tree(z, 0, 0, 1, 5);
    tree(z, 1, 0, 1, 6);
    tree(z, 2, 0, 2, 4);
    tree(z, 3, 0, 3, 4);
  }
  private static void termTreesTold() {
    test("TREES: how many (9999 at most are told)");
    // of n SIGNS: 3, 13, 100, 947, 9998
    TwinTrees x = with("sign a;kind s;rule s a;rule s a;rule s a s s;rule s a;rule s a a;rule s s a;rule s s s;");
    due("947", trees(x, 0, 0, 0, 0), 947);
    due("9998", trees(x, 0, 0, 0, 0, 0), 9998);
    due("the last", x.tree(9997) > 0, true);
    due("behind", x.tree(9998), NONE);
    // of n SIGNS: 2, 3, 11, 35, 141, 553, 2343, 9999
    TwinTrees y = with("sign a;kind s;rule s a s;rule s a;rule s a s s;rule s s a s;rule s a a;rule s a;");
    due("2343", trees(y, 0, 0, 0, 0, 0, 0, 0), 2343);
    due("9999", trees(y, 0, 0, 0, 0, 0, 0, 0, 0), 9999);
    due("the last", y.tree(9998) > 0, true);
    due("behind", y.tree(9999), NONE);
    // two v of 4 * 5 * 5 TREES each
    TwinTrees z = with("sign a;kind s;kind v;kind u;rule s v v;" + "rule v u u;".repeat(4) + "rule u a;".repeat(5));
    due("10000", trees(z, 0, 0, 0, 0), 9999);
    tree(z, 9998, 0, 4, 9, 9, 4, 9, 8);
    due("the last is not told", z.tree(9999), NONE);
    TwinTrees most = with("sign a;kind s;" + "rule s s s s;".repeat(4) + "rule s s s;".repeat(4) + "rule s a;rule s;");
    due("a great many", trees(most, 0, 0, 0, 0, 0, 0, 0, 0), 9999);
    due("one of them", most.tree(9998) > 0, true);
  }
  private static void termWitness() {
    test("WITNESS of n: of at most n SIGNS, of the fewest, then SIGN by SIGN of the least numbers, two TREES or more");
    TwinTrees x = with("sign a;sign b;sign c;sign d;kind s;kind t;rule s d d t;rule s d d t;rule t d d d;");
    due("the last row of all", x.witness(5), 5);
    for (int k = 0; k < 5; k++) due("SIGN " + k, x.witnessAt(k), 3);
    due("of four", x.witness(4), NONE);
    TwinTrees y = with("sign a;sign b;sign c;kind s;rule s b a;rule s b a;rule s a c;rule s a c;rule s c;rule s a a;rule s b c;rule s b c;");
    due("the least", y.witness(5), 2);
    due("SIGN 0", y.witnessAt(0), 0);
    due("SIGN 1", y.witnessAt(1), 2);
    due("of one", y.witness(1), NONE);
    y.drop(2);
    due("the next", y.witness(2), 2);
    due("SIGN 0", y.witnessAt(0), 1);
    due("SIGN 1", y.witnessAt(1), 0);
    due("fewer first", add(y, 0, 2), 0);
    due("fewer first", y.witness(2), 1);
    due("SIGN 0", y.witnessAt(0), 2);
    due("no SIGN at all", with("kind s;rule s;rule s;").witness(5), 0);
    due("one TREE by a row of a, one by a row of b", with("sign a;sign b;kind s;kind t;rule s t a;rule s a a;rule t b;").witness(5), NONE);
  }

  // ---------- KINDS ----------
  private static void kind(TwinTrees x, int k, int... want) {
    for (int w = 0; w < want.length; w++) due("KIND " + k + ", " + w, x.kind(k, w), want[w]);
  }
  private static void termKindsWithoutRules() {
    test("Of a KIND without RULES: not EMPTY, BEGINS with none, ENDLESS not, USED not");
    TwinTrees x = with("sign a;kind s;kind t;rule s t a;");
    kind(x, 1, 0, 0, 0, 1, 0, 0);
    kind(x, 0, 1, 0, 0, 0, 0, 0);
    kind(with("kind s;"), 0, 0, 0, 0, 0, 0, 0);
  }
  private static void termEmpty() {
    test("EMPTY: it can be no SIGN at all");
    TwinTrees x = with("sign a;kind s;kind t;kind u;rule s t u t;rule t u u;rule u;rule u a;");
    kind(x, 0, 1, 1, 1, 0, 0, 1);
    x.drop(2);
    due("not without a RULE of none", x.kind(0, 1) + x.kind(1, 1) + x.kind(2, 1), 0);
    due("by itself alone", with("kind s;rule s s;").kind(0, 1), 0);
    due("by KIND 0", with("kind s;kind t;rule t s s;rule s;").kind(1, 1), 1);
    due("not by KIND 0", with("sign a;kind s;kind t;rule t s;rule s a;").kind(1, 1), 0);
  }
  private static void termBegins() {
    test("BEGINS: SIGNS with which it can begin, by RULES alone, whether or not what else they make can end as a row");
    TwinTrees x = with("sign a;sign b;sign c;kind s;kind t;kind u;rule s t u c;rule t;rule t a;rule u b u;");
    kind(x, 0, 1, 0, 3, 0, 0, 0);
    kind(x, 1, 6, 1, 1, 2, 0, 0);
    kind(x, 2, 8, 0, 2, 4, 0, 0);
    due("not behind a KIND that can't be empty", with("sign a;kind s;kind t;rule s t a;rule t t;").kind(0, 2), 0);
    due("the last SIGN", with("sign a;sign b;sign c;sign d;kind s;rule s d a;").kind(0, 2), 8);
    TwinTrees y = with("sign a;sign b;kind s;kind t;rule s a;rule t s;rule s b;");
    due("a RULE behind tells more of s", y.kind(0, 2), 3);
    due("and of t, which begins with s", y.kind(1, 2), 3);
  }
  private static void termFollows() {
    test("FOLLOWS: SIGNS that can be behind it in what RULES make from KIND 0 (none, if it is not made)");
    TwinTrees x = with("sign a;sign b;sign c;sign d;kind s;kind t;kind u;kind v;rule s t u d;rule u;rule u b;rule t c u;rule v t a;rule s s v;");
    kind(x, 1, 8, 0, 4, 11);
    kind(x, 2, 6, 1, 2, 11);
    due("of what is made by s s v: v begins by c", x.kind(0, 3), 4);
    due("v, at the end of s", x.kind(3, 3), 4);
    x.drop(5);
    due("v is not made", x.kind(3, 3), 0);
    due("nor what is behind t in it", x.kind(1, 3), 10);
    due("KIND 0, at the end alone", x.kind(0, 3), 0);
  }
  private static void termEndless() {
    test("ENDLESS: it can be itself by one RULE or more");
    due("by one", with("kind s;rule s s;").kind(0, 4), 1);
    TwinTrees x = with("sign a;kind s;kind t;kind u;rule s t;rule t u u s;rule u;");
    kind(x, 0, 1, 0, 0, 0, 1);
    due("by two, EMPTY ones beside it", x.kind(1, 4), 1);
    due("not that one", x.kind(2, 4), 0);
    x.drop(2);
    due("none is EMPTY", x.kind(0, 4) + x.kind(1, 4), 0);
    due("not with a SIGN", with("sign a;kind s;rule s s a;rule s;").kind(0, 4), 0);
    due("beside itself", with("kind s;rule s s s;rule s;").kind(0, 4), 1);
  }
  private static void termUsed() {
    test("USED: from KIND 0 one comes to it by RULES, all of whose KINDS can be rows of SIGNS, and so can it");
    TwinTrees x = with("sign a;kind s;kind t;kind u;kind v;rule s t;rule t a;rule s t u;rule u v;rule u u a;rule v;");
    due("KIND 0", x.kind(0, 5), 1);
    due("t", x.kind(1, 5), 1);
    due("u", x.kind(2, 5), 1);
    due("v, no SIGN is a row, too", x.kind(3, 5), 1);
    x.drop(5);
    due("v can't be a row", x.kind(3, 5), 0);
    due("u can't", x.kind(2, 5), 0);
    due("t as before", x.kind(1, 5), 1);
    x.drop(0);
    due("t beside what can't", x.kind(1, 5), 0);
    due("KIND 0 can't", x.kind(0, 5), 0);
    due("not come to", with("sign a;kind s;kind t;rule s;rule t a;").kind(1, 5), 0);
  }
  private static void termKindsInAnyOrder() {
    test("Of KINDS: EMPTY, BEGINS, FOLLOWS, ENDLESS, USED through five of them, in any order of the RULES");
    String up = "rule w a;rule v w;rule u v;rule t u;rule s t b;", down = "rule s t b;rule t u;rule u v;rule v w;rule w a;";
    for (String rules : new String[] {up, down}) {
      TwinTrees x = with("sign a;sign b;kind s;kind t;kind u;kind v;kind w;" + rules);
      for (int k = 0; k < 5; k++) for (int w = 1; w < 6; w++) due("KIND " + k + ", " + w, x.kind(k, w), w == 2 || w == 5 ? 1 : w == 3 && k > 0 ? 2 : 0);
      add(x, 4, 9);
      for (int k = 0; k < 5; k++) due("ENDLESS " + k, x.kind(k, 4), k == 0 ? 0 : 1);
      add(x, 4);
      for (int k = 0; k < 5; k++) { due("EMPTY " + k, x.kind(k, 1), k == 0 ? 0 : 1); due("BEGINS " + k, x.kind(k, 2), k == 0 ? 3 : 1); }
      for (int r = 0; r < 5; r++) if (x.rule(r, 0) == 0) due("RULE of KIND 0", x.drop(r), 0);
      for (int k = 0; k < 5; k++) { due("not made " + k, x.kind(k, 3), 0); due("not USED " + k, x.kind(k, 5), 0); }
    }
  }
  private static void tag(TwinTrees x, int i, String want) {
    due("TAG of " + i, x.tag(i), want.length());
    for (int t = 0; t < want.length(); t++) due("TAG of " + i + ", byte " + t, x.byteAt(t), want.charAt(t));
    due("TAG of " + i + ", behind", x.byteAt(want.length()), NONE);
  }
  private static void termTag() {
    test("TAG: its KIND's NAME, ' is', for each SYMBOL a blank and its NAME, a blank and '.' where the dot is");
    TwinTrees x = with("sign z;kind abcdefg;kind t;rule abcdefg abcdefg abcdefg abcdefg;rule t;rule t z t;");
    tag(x, 2, "abcdefg is . abcdefg abcdefg abcdefg");
    tag(x, 4, "abcdefg is abcdefg abcdefg . abcdefg");
    tag(x, 5, "abcdefg is abcdefg abcdefg abcdefg .");
    tag(x, 6, "t is .");
    tag(x, 7, "t is . z t");
    tag(x, 8, "t is z . t");
    tag(x, 9, "t is z t .");
  }

  // ---------- DRAWN ----------
  /** Draws by whole numbers that never wrap: x is kept from 0 to 2^32 less 1. */
  private static final class Dice {
    private long x;
    Dice(int seed) { x = seed & 0xFFFFFFFFL; }
    int draw(int n) { x = (x * 1103515245L + 12345L) & 0xFFFFFFFFL; return (int) ((x >> 8) % n); }
  }
  private static int deed(TwinTrees x, Dice d) {
    int what = d.draw(6), items = x.count(3) - 2, rules = x.count(2), kinds = x.count(1), signs = x.count(0);
    if (what <= 2) { if (items == 0) return NONE; int i = 2 + d.draw(items); return x.merge(i, 2 + d.draw(items)); }
    if (what == 3) return x.depth(d.draw(2));
    if (what == 4) return rules == 0 ? NONE : x.drop(d.draw(rules));
    if (kinds == 0) return NONE;
    int k = d.draw(kinds);
    int[] symbols = new int[d.draw(4)];
    for (int t = 0; t < symbols.length; t++) { int s = d.draw(kinds + signs); symbols[t] = s < kinds ? 8 + s : s - kinds; }
    return add(x, k, symbols);
  }
  private static void drawnAsTold(String grammar, int n, int seed) {
    TwinTrees x = with(grammar), y = with(grammar);
    Dice d = new Dice(seed);
    int done = 0;
    for (int i = 0; i < n; i++) if (deed(y, d) == 0) done++;
    due("drawn(" + n + ", " + seed + ")", x.drawn(n, seed), done);
    same("drawn(" + n + ", " + seed + ")", so(x), so(y));
  }
  private static void termDrawnWraps() {
    test("DRAWN: x becomes x * 1103515245 + 12345 (an int, wrapping), the draw is (x >>> 8) % n");
    for (int seed : new int[] {0, 1, -1, 2, 255, 256, -256, 65535, FAR, FAR - 1, FAR_BELOW, FAR_BELOW + 1, 1 << 30, -(1 << 30), 12345, -12345, 1103515245}) {
      drawnAsTold(SUMS, 1, seed);
      drawnAsTold(SUMS, 5, seed);
      drawnAsTold("sign a;sign b;kind s;kind t;kind u;rule s t u;rule t a;rule u b;rule u;", 12, seed);
    }
  }
  private static void termEachDeed() {
    test("DRAWN: each DEED by a draw of 6");
    int[] seen = new int[6];
    for (int seed = 0; seed < 200; seed++) { seen[new Dice(seed * 7919).draw(6)]++; drawnAsTold(SUMS, 1, seed * 7919); drawnAsTold(SUMS, 2, seed * 7919); }
    for (int what = 0; what < 6; what++) due("all are drawn, " + what, seen[what] > 9, true);
  }
  private static void termNoneToDraw() {
    test("DRAWN: no ITEMS, RULES, KINDS: no more draws");
    for (int seed = 0; seed < 40; seed++) {
      drawnAsTold("", 8, seed * 1001);
      drawnAsTold("sign a;", 8, seed * 1001);
      drawnAsTold("kind s;", 8, seed * 1001);
      drawnAsTold("kind s;rule s;", 8, seed * 1001);
    }
  }
  private static void termDeedsNotDone() {
    test("DRAWN: each, if it can be; done is what merge(), depth(), drop(), add() would answer by 0");
    for (int seed = 0; seed < 40; seed++) {
      drawnAsTold("sign a;kind s;" + "rule s a;".repeat(10), 3, seed * 77); // a tenth RULE is there
      drawnAsTold("kind s;rule s;", 3, seed * 77); // one ITEM alone
    }
  }

  // ---------- what is worked out ----------
  private static String worked(TwinTrees x) {
    StringBuilder b = new StringBuilder();
    for (int k = 0; k < 3; k++) for (int w = 0; w <= 5; w++) b.append(x.kind(k, w)).append(' ');
    for (int p = 0; p < 5; p++) b.append(x.place(p, 2)).append(' ').append(x.place(p, 3)).append(' ');
    for (int stage = 0; stage <= 3; stage++) b.append(x.twins(stage)).append(' ').append(x.suspects(stage)).append(' ').append(x.suspectAt(2, stage)).append(' ');
    b.append(x.proven()).append(' ').append(x.shadow()).append(' ').append(x.count(5)).append(' ');
    for (int k = 0; k < 3; k++) { int rules = x.tree(k); b.append(rules).append(' ').append(x.treeAt(rules < 0 ? NONE : 1)).append(' '); }
    b.append(trees(x, 0, 0)).append(' ').append(trees(x, 0)).append(' ');
    int signs = x.witness(4);
    return b.append(signs).append(' ').append(x.witnessAt(signs < 0 ? NONE : 0)).toString();
  }
  /** Behind an act all is as it is for an object that was not asked ahead of it. */
  private static void workedAnew(String what, Consumer<TwinTrees> act) {
    TwinTrees[] x = {null, null};
    for (int i = 0; i < 2; i++) {
      x[i] = with("sign a;sign b;kind s;kind t;kind u;rule s t u;rule t a;rule t;rule u t;rule u b s;rule u;");
      x[i].image(0);
      x[i].depth(1);
      x[i].drop(3);
      x[i].merge(3, 6);
      trees(x[i], 0);
      if (i == 0) worked(x[i]);
      act.accept(x[i]);
    }
    same(what, worked(x[0]), worked(x[1]));
  }
  /** Behind a call that is no act all is as it was. */
  private static void workedAsEver(String what, Consumer<TwinTrees> call) {
    TwinTrees x = with("sign a;sign b;kind s;kind t;kind u;rule s t u;rule t a;rule t;rule u b s;rule u;");
    x.depth(1);
    x.merge(3, 6);
    trees(x, 0);
    String before = worked(x);
    call.accept(x);
    same(what, worked(x), before);
  }
  private static void termWorkedAsEver() {
    test("What is so stays behind a call that is no act");
    for (int seed = 0; seed < 9; seed++) { int n = seed; workedAsEver("odds()", x -> x.odds(1, n * 7919)); workedAsEver("odds()", x -> x.odds(6, n * 7919)); }
    workedAsEver("grammar() with a FAULT", x -> { load(x, "kind s;!"); x.grammar(); });
    workedAsEver("book() judged", x -> book(x, "drop 0;depth 0;", 0));
    workedAsEver("book() with a FAULT", x -> book(x, "drop 0;depth 2;", 1));
    workedAsEver("book() WRONG at first", x -> book(x, "depth 1;drop 0;", 1));
    workedAsEver("sentence()", x -> sentence(x, "first"));
    workedAsEver("witness()", x -> x.witness(5));
    workedAsEver("image()", x -> x.image(1));
    workedAsEver("restore() of nothing", x -> x.restore(1));
    workedAsEver("image() and restore()", x -> { x.image(0); x.merge(2, 4); x.restore(0); });
    workedAsEver("tag()", x -> x.tag(3));
    workedAsEver("acts that are undone", x -> { x.drop(0); x.undo(); x.merge(2, 4); x.undo(); add(x, 2, 9, 9); x.undo(); x.drawn(5, 7); x.undo(); });
  }
  private static void termWorkedAnew() {
    test("What is so now tells: PLACES, TWINS, KINDS, TREES, WITNESS behind each act");
    workedAnew("grammar()", x -> anew(x, PAIRS));
    workedAnew("grammar() of none", x -> anew(x, ""));
    workedAnew("merge()", x -> x.merge(2, 5));
    workedAnew("depth()", x -> x.depth(0));
    for (int r = 0; r < 5; r++) { int rule = r; workedAnew("drop(" + r + ")", x -> x.drop(rule)); }
    workedAnew("add()", x -> add(x, 0, 9));
    workedAnew("add()", x -> add(x, 2, 8, 8));
    workedAnew("undo()", x -> x.undo());
    workedAnew("undo() twice", x -> { x.undo(); x.undo(); });
    for (int seed = 0; seed < 9; seed++) { int n = seed; workedAnew("drawn()", x -> x.drawn(2, n * 7919)); }
    workedAnew("book() lived", x -> book(x, "drop 0;depth 0;", 1));
    workedAnew("restore()", x -> x.restore(0));
  }

  // ---------- a new GRAMMAR ----------
  private static void termNewGrammar() {
    test("A new GRAMMAR: DEPTH 0, all ITEMS alone, no SENTENCE, nothing that can be undone; images stay");
    TwinTrees x = busy();
    due("image", x.image(0), true);
    String kept = so(x), last = told(x);
    anew(x, SUMS);
    due("DEPTH", x.count(6), 0);
    due("CLASSES", x.count(4), 8);
    due("SENTENCE", x.said(NONE), NONE);
    due("SENTENCE", x.said(0), NONE);
    due("undo", x.undo(), NONE);
    due("depth, it is", x.depth(0), 1);
    same("what was told last", told(x), last);
    due("images stay", x.restore(0), true);
    same("images stay", so(x), kept);
    anew(x, "");
    due("nothing of it", x.count(0) + x.count(1) + x.count(2), 0);
    due("ITEMS", x.count(3), 2);
  }

  // ---------- promises, by number ----------
  private static void promise01NewObject() {
    test("Promise 1, a new object: a GRAMMAR without LINES; an empty tape");
    TwinTrees x = new TwinTrees();
    int[] counts = {0, 0, 0, 2, 2, 2, 0, 0};
    for (int w = 0; w < counts.length; w++) due("count(" + w + ")", x.count(w), counts[w]);
    TwinTrees y = new TwinTrees();
    due("as if told one", y.grammar(), 0);
    same("as if told one", all(x), all(y));
    due("nothing to undo", x.undo(), NONE);
    due("no RULE", x.rule(0, 0), NONE);
    due("no KIND", x.kind(0, 0), NONE);
    due("no ITEM", x.item(2, 0), NONE);
    due("no SENTENCE", x.said(NONE), NONE);
    due("no image", x.restore(0) || x.restore(1), false);
  }
  private static void promise02FeedUpTo940() {
    test("Promise 2, feed: twenty bytes come: how many it has; NONE, and none come, if it would have more than 940");
    TwinTrees x = new TwinTrees();
    for (int i = 1; i <= 47; i++) due("feed", x.feed(i, -i, 0, FAR, FAR_BELOW), 20 * i);
    due("960", x.feed(0, 0, 0, 0, 0), NONE);
    due("none come", x.count(7), 940);
    due("end", x.end(921), true);
    due("941", x.feed(0, 0, 0, 0, 0), NONE);
    due("none come", x.count(7), 921);
    due("end", x.end(920), true);
    due("940", x.feed(0, 0, 0, 0, 0), 940);
    due("end", x.end(1), true);
    due("21", x.feed(0, 0, 0, 0, 0), 21);
  }
  private static void promise02FeedKeepsWhatIsThere() {
    test("Promise 2, feed: bytes come behind the tape; when none come, those that are there stay");
    TwinTrees x = new TwinTrees();
    load(x, "kind s;" + blanks(933));
    due("full", x.feed(-1, -1, -1, -1, -1), NONE);
    due("the first ones", x.end(7), true);
    due("the first ones", x.grammar(), 1);
    load(x, "kind s;");
    x.feed(0x6B696E64, 0x20743B00, 0, 0, 0);
    due("behind", x.end(14), true);
    due("behind", x.grammar(), 2);
  }
  private static void promise02FeedHighestFirst() {
    test("Promise 2, feed: of each number the highest byte first");
    TwinTrees x = with("sign a;sign b;sign c;sign d;kind s;rule s a b c;rule s d;");
    x.feed(0x00010203, 0, 0, 0, 0);
    x.end(3);
    due("0 1 2", x.trees(), 1);
    x.feed(0x03FFFFFF, -1, -1, -1, -1);
    x.end(1);
    due("3", x.trees(), 1);
    x.feed(0xFF030303, -1, -1, -1, -1);
    x.end(1);
    due("255", x.trees(), NONE);
    TwinTrees y = new TwinTrees();
    due("five numbers", y.feed(0x6B696E64, 0x20613B6B, 0x696E6420, 0x623B6B69, 0x6E642063), 20);
    y.feed(0x3B000000, 0, 0, 0, 0);
    y.end(21);
    due("five numbers", y.grammar(), 3);
  }
  private static void promise03End() {
    test("Promise 3, end: its first n bytes alone: true; false, if it has not so many, or n is below 0");
    TwinTrees x = new TwinTrees();
    due("none of none", x.end(0), true);
    due("one of none", x.end(1), false);
    due("below 0", x.end(-1), false);
    load(x, "kind s;kind t;");
    due("one more", x.end(15), false);
    due("far more", x.end(FAR), false);
    due("below 0", x.end(-1), false);
    due("far below 0", x.end(FAR_BELOW), false);
    due("it stays", x.count(7), 14);
    due("all", x.end(14), true);
    due("it stays", x.count(7), 14);
    due("fewer", x.end(7), true);
    due("the others are gone", x.end(8), false);
    due("the first alone", x.grammar(), 1);
    load(x, "not firsts and last or");
    due("fewer", x.end(9), true);
    due("those that are gone don't go on", x.sentence(), 2);
    load(x, "dot < 1234");
    due("fewer", x.end(9), true);
    due("those that are gone don't go on", x.sentence(), 1);
    load(x, blanks(940));
    due("941", x.end(941), false);
    due("940", x.end(940), true);
  }
  private static void promise04Grammar() {
    test("Promise 4, grammar: how many LINES; -1 less the place of a FAULT: it stays; the tape is empty then");
    taken("", 0);
    taken(FULL, 19);
    refused("!", 0, 1);
    refused(FULL + "!", 193, 1);
    refused("kind s;sign a;merge 2 3;", 14, 1);
  }
  private static void promise05Fault() {
    test("Promise 5, fault: of the latest grammar(), book() or sentence(); 0 without one and ahead of any; a book() of -1000 leaves it");
    TwinTrees x = new TwinTrees();
    due("ahead of any", x.fault(), 0);
    load(x, "kind a;kind a;");
    x.grammar();
    due("of a GRAMMAR", x.fault(), 3);
    due("another lives", x.book(2), -1000);
    due("it leaves it", x.fault(), 3);
    x.trees();
    x.add(0);
    x.merge(0, 0);
    due("others leave it", x.fault(), 3);
    book(x, "drop 10;", 0);
    due("of a BOOK", x.fault(), 2);
    due("another lives", x.book(-1), -1000);
    due("it leaves it", x.fault(), 2);
    sentence(x, "(".repeat(9));
    due("of a SENTENCE", x.fault(), 4);
    book(x, "drop 9;", 0);
    due("a BOOK that is WRONG has none", x.fault(), 0);
    sentence(x, "");
    due("of a SENTENCE", x.fault(), 1);
    sentence(x, "first");
    due("none", x.fault(), 0);
    sentence(x, "firs");
    x.grammar();
    due("none", x.fault(), 0);
  }
  private static void promise06Rule() {
    test("Promise 6, rule: 2 to 4 NONE where there is no SYMBOL; NONE, too: no such ones");
    TwinTrees x = with("sign a;sign b;kind s;kind t;rule t b s t;rule s;rule s a;rule t s s;");
    int[][] want = {{1, 3, 1, 8, 9, 2}, {0, 0, NONE, NONE, NONE, 6}, {0, 1, 0, NONE, NONE, 7}, {1, 2, 8, 8, NONE, 9}};
    for (int r = 0; r < 4; r++) for (int w = 0; w < 6; w++) due("rule(" + r + ", " + w + ")", x.rule(r, w), want[r][w]);
    for (int w = -1; w <= 6; w++) { due("no RULE 4", x.rule(4, w), NONE); due("no RULE -1", x.rule(-1, w), NONE); }
    for (int r = -1; r <= 4; r++) for (int w : new int[] {-1, 6, FAR, FAR_BELOW}) due("no such", x.rule(r, w), NONE);
    due("far", x.rule(FAR, 0), NONE);
    due("far below", x.rule(FAR_BELOW, 0), NONE);
    due("the last of ten", with(FULL).rule(9, 5), 38);
    due("none behind", with(FULL).rule(10, 0), NONE);
  }
  private static void promise07Kind() {
    test("Promise 7, kind: NONE: no such ones");
    TwinTrees x = with(FULL);
    due("RULES as bits", x.kind(0, 0), 1023);
    due("the last KIND", x.kind(4, 0), 0);
    for (int w = -1; w <= 6; w++) { due("no KIND 5", x.kind(5, w), NONE); due("no KIND -1", x.kind(-1, w), NONE); }
    for (int k = 0; k < 5; k++) for (int w : new int[] {-1, 6, FAR, FAR_BELOW}) due("no such", x.kind(k, w), NONE);
    due("far", x.kind(FAR, 0), NONE);
    due("far below", x.kind(FAR_BELOW, 0), NONE);
    due("without KINDS", new TwinTrees().kind(0, 0), NONE);
    kind(with(SUMS), 0, 3, 0, 1, 2, 0, 1);
    kind(with(PAIRS), 0, 3, 1, 1, 2, 0, 1);
  }
  private static void promise08Item() {
    test("Promise 8, item: RULE and dot NONE of START, END; NONE, too: no such ones");
    TwinTrees x = with(SUMS);
    int[][] want = {{NONE, NONE, 8, 0, 1}, {NONE, NONE, NONE, 1, 1}, {0, 0, 8, 2, 1}, {0, 1, 1, 3, 1}, {0, 2, 8, 4, 1}, {0, 3, NONE, 5, 1}, {1, 0, 0, 6, 1}, {1, 1, NONE, 7, 1}};
    for (int i = 0; i < 8; i++) for (int w = 0; w < 5; w++) due("item(" + i + ", " + w + ")", x.item(i, w), want[i][w]);
    for (int w = -1; w <= 5; w++) { due("no ITEM 8", x.item(8, w), NONE); due("no ITEM -1", x.item(-1, w), NONE); }
    for (int i = 0; i < 8; i++) for (int w : new int[] {-1, 5, FAR, FAR_BELOW}) due("no such", x.item(i, w), NONE);
    due("far", x.item(FAR, 3), NONE);
    due("far below", x.item(FAR_BELOW, 3), NONE);
  }
  private static void promise09Place() {
    test("Promise 9, place: NONE: no such ones, they are TOO MANY");
    TwinTrees x = with(SUMS);
    for (int w = -1; w <= 4; w++) { due("no PLACE 8", x.place(8, w), NONE); due("no PLACE -1", x.place(-1, w), NONE); }
    for (int p = 0; p < 8; p++) for (int w : new int[] {-1, 4, FAR, FAR_BELOW}) due("no such", x.place(p, w), NONE);
    due("far", x.place(FAR, 0), NONE);
    due("far below", x.place(FAR_BELOW, 0), NONE);
    for (int p = 0; p < 8; p++) due("no CALLER by DEPTH 0", x.place(p, 1), NONE);
    int[] come = {0, 2, 3, 2, 1, 2, 3, 1};
    for (int p = 0; p < 8; p++) due("come to " + p, x.place(p, 3), come[p]);
    TwinTrees y = depth1(with(EIGHTY));
    due("80", y.place(79, 0), 14);
    add(y, 1);
    due("TOO MANY", y.place(0, 0), NONE);
    due("TOO MANY", y.place(79, 3), NONE);
  }
  private static void promise10Step() {
    test("Promise 10, step: k-th (from 0); NONE: no such ones, they are TOO MANY");
    TwinTrees x = with(SUMS);
    steps(x, 0, 16, 2, 17, 6);
    steps(x, 5, 32, 1, 32, 3, 32, 5);
    for (int w : new int[] {-1, 2, FAR, FAR_BELOW}) due("no such", x.step(0, 0, w), NONE);
    for (int k : new int[] {-1, 2, FAR, FAR_BELOW}) due("no such", x.step(0, k, 0), NONE);
    for (int p : new int[] {-1, 8, FAR, FAR_BELOW}) due("no such", x.step(p, 0, 0), NONE);
    TwinTrees y = depth1(with(EIGHTY));
    due("80", y.step(79, 0, 0), 35);
    add(y, 1);
    due("TOO MANY", y.step(0, 0, 0), NONE);
    due("TOO MANY", y.step(79, 0, 1), NONE);
  }
  private static void promise11Merge() {
    test("Promise 11, merge: 0; 1 they are in one CLASS; NONE: no such ones, START, END");
    TwinTrees x = with(SUMS);
    due("the ends", x.merge(7, 2), 0);
    due("in one", x.merge(2, 7), 1);
    due("in one", x.merge(7, 2), 1);
    due("itself", x.merge(3, 3), 1);
    String before = so(x);
    for (int i : new int[] {0, 1, 8, -1, FAR, FAR_BELOW}) { due("merge(" + i + ", 2)", x.merge(i, 2), NONE); due("merge(3, " + i + ")", x.merge(3, i), NONE); due("merge itself", x.merge(i, i), NONE); }
    same("all stays", so(x), before);
    due("undo of one alone", x.undo(), 0);
    due("no ITEMS", new TwinTrees().merge(2, 2), NONE);
    TwinTrees y = with(FULL);
    due("the last", y.merge(41, 2), 0);
    due("behind it", y.merge(42, 2), NONE);
  }
  private static void promise12Depth() {
    test("Promise 12, depth: 0; 1 it is; NONE: not as told");
    TwinTrees x = with(SUMS);
    for (int d : new int[] {-1, 2, FAR, FAR_BELOW}) due("depth(" + d + ")", x.depth(d), NONE);
    due("it is", x.depth(0), 1);
    due("nothing to undo", x.undo(), NONE);
    due("1", x.depth(1), 0);
    due("it is", x.depth(1), 1);
    for (int d : new int[] {-1, 2, FAR, FAR_BELOW}) due("depth(" + d + ")", x.depth(d), NONE);
    due("it stays", x.count(6), 1);
    due("0", x.depth(0), 0);
    due("undo of two", x.undo(), 1);
    due("1 again", x.count(6), 1);
  }
  private static void promise13Drop() {
    test("Promise 13, drop: those behind it have numbers 1 less; all ITEMS are alone; NONE: no such one");
    TwinTrees x = with("sign a;sign b;kind s;rule s;rule s a;rule s a b;rule s b a s;");
    x.depth(1);
    x.merge(2, 9);
    String before = so(x);
    for (int r : new int[] {-1, 4, FAR, FAR_BELOW}) due("drop(" + r + ")", x.drop(r), NONE);
    same("all stays", so(x), before);
    due("the first", x.drop(0), 0);
    due("numbers", x.rule(0, 1) * 100 + x.rule(1, 1) * 10 + x.rule(2, 1), 123);
    due("the last's SYMBOLS", x.rule(2, 2) * 100 + x.rule(2, 3) * 10 + x.rule(2, 4), 108);
    due("ITEMS", x.count(3), 2 + 2 + 3 + 4);
    due("alone", x.count(4), 11);
    due("DEPTH stays", x.count(6), 1);
    due("the last", x.drop(2), 0);
    due("numbers", x.rule(0, 1) * 10 + x.rule(1, 1), 12);
    due("that number is free", x.drop(2), NONE);
    due("the middle", x.drop(1), 0);
    due("the only one", x.drop(0), 0);
    due("none", x.drop(0), NONE);
    due("none", x.count(2) * 10 + x.count(3), 2);
    due("undo of six", x.undo(), 5);
    due("KINDS stay", x.count(1), 1);
    TwinTrees y = with(FULL);
    due("the last of ten", y.drop(9), 0);
    due("none behind", y.drop(9), NONE);
  }
  private static void promise14AddSymbols() {
    test("Promise 14, add: the SYMBOLS that the tape tells (a byte each, as for rule(); 3 at most); NONE: not as told, no such ones; the tape is empty then");
    TwinTrees x = with("sign a;sign b;kind s;kind t;rule s;");
    x.depth(1);
    String before = so(x);
    for (int code : new int[] {2, 3, 4, 7, 10, 12, 13, 128, 255}) for (int size = 1; size <= 3; size++) {
      int[] symbols = new int[size];
      Arrays.fill(symbols, 8);
      symbols[size - 1] = code;
      due("no such SYMBOL " + code, add(x, 0, symbols), NONE);
      due("the tape", x.count(7), 0);
    }
    for (int k : new int[] {-1, 2, 8, FAR, FAR_BELOW}) due("no such KIND " + k, add(x, k, 0), NONE);
    due("four", add(x, 0, 0, 0, 0, 0), NONE);
    due("the tape", x.count(7), 0);
    due("many", add(x, 0, new int[25]), NONE);
    due("the tape", x.count(7), 0);
    same("all stays", so(x), before);
    due("none", add(x, 1), 0);
    due("one", add(x, 0, 1), 0);
    due("three", add(x, 1, 8, 9, 0), 0);
    due("the tape", x.count(7), 0);
    int[] want = {1, 3, 8, 9, 0, 6};
    for (int w = 0; w < 6; w++) due("behind all others", x.rule(3, w), want[w]);
    due("undo of four", x.undo(), 3);
  }
  private static void promise14AddAtTheEdges() {
    test("Promise 14, add: the last SIGN, KIND; without any");
    TwinTrees x = with("sign a;sign b;sign c;sign d;kind s;kind t;kind u;kind v;kind w;");
    due("SIGN 3", add(x, 4, 3), 0);
    due("SIGN 4", add(x, 4, 4), NONE);
    due("KIND 4", add(x, 0, 12), 0);
    due("KIND 5", add(x, 0, 13), NONE);
    due("of KIND 5", add(x, 5), NONE);
    due("no KINDS", add(new TwinTrees(), 0), NONE);
    due("no SIGNS", add(with("kind s;"), 0, 0), NONE);
    due("no KINDS", add(with("sign a;"), 0, 0), NONE);
  }
  private static void promise14AddAnEleventh() {
    test("Promise 14, add: 1 there are 10 (and all is as told); all ITEMS are alone");
    TwinTrees x = with("sign a;kind s;" + "rule s a;".repeat(9));
    x.merge(2, 3);
    due("the tenth", add(x, 0, 8, 8, 8), 0);
    due("alone", x.count(4), 2 + 18 + 4);
    x.merge(2, 3);
    String before = so(x);
    due("an eleventh", add(x, 0, 0), 1);
    due("the tape", x.count(7), 0);
    due("no such SYMBOL", add(x, 0, 1), NONE);
    due("no such KIND", add(x, 1, 0), NONE);
    due("four", add(x, 0, 0, 0, 0, 0), NONE);
    same("all stays", so(x), before);
    due("undo of three", x.undo(), 2);
    due("MERGED", x.count(4), 24);
    due("a RULE less", x.drop(0), 0);
    due("a tenth again", add(x, 0), 0);
  }
  private static void promise15EightAreKept() {
    test("Promise 15, undo: how many more can be (8 at most are kept); NONE: none is");
    TwinTrees x = with(FULL);
    due("none", x.undo(), NONE);
    for (int i = 3; i <= 12; i++) due("merge", x.merge(2, i), 0);
    for (int left = 7; left >= 0; left--) { due("undo", x.undo(), left); due("undone", x.count(4), 40 - left); }
    due("none", x.undo(), NONE);
    due("the first two stay", x.count(4), 40);
    due("one", x.merge(2, 5), 0);
    due("undo of one", x.undo(), 0);
    for (int i = 1; i <= 8; i++) due("depth", x.depth(i % 2), 0);
    due("undo of eight", x.undo(), 7);
  }
  private static void promise15WhatIsUndone() {
    test("Promise 15, undo: merge(), depth(), drop(), add() that was 0, drawn() above 0, a BOOK of which some LINE was lived");
    TwinTrees x = with(SUMS);
    String[] so = new String[7];
    so[0] = so(x);
    x.merge(2, 4);
    so[1] = so(x);
    x.depth(1);
    so[2] = so(x);
    x.drop(0);
    so[3] = so(x);
    add(x, 0, 8, 1, 8);
    so[4] = so(x);
    int seed = 0;
    while (x.drawn(3, seed) <= 0) seed++;
    so[5] = so(x);
    due("lived ahead of what is WRONG", book(x, "rule s p;merge 2 3;drop 9;rule s a;", 1), 2);
    for (int left = 5; left >= 0; left--) { due("undo", x.undo(), left); same("as it was ahead", so(x), so[left]); }
    due("none", x.undo(), NONE);
    same("as it was", so(x), so[0]);
  }
  private static void promise15WhatIsNotUndone() {
    test("Promise 15, undo: not one that did nothing");
    TwinTrees x = with(SUMS);
    x.merge(2, 2);
    x.merge(0, 2);
    x.depth(0);
    x.depth(2);
    x.drop(2);
    add(x, 0, 9);
    book(x, "depth 1;", 0);
    book(x, "depth 0;merge 2 3;", 1);
    book(x, "", 1);
    book(x, "depth 1;!", 1);
    x.odds(6, 3);
    due("none", x.undo(), NONE);
    TwinTrees y = new TwinTrees();
    int nothing = 0;
    for (int seed = 0; seed < 60; seed++) {
      int depth = y.count(6), done = y.drawn(1, seed * 7919);
      if (done == 0) nothing++;
      due("kept if done alone", y.undo(), done > 0 ? 0 : NONE);
      due("as it was", y.count(6), depth);
    }
    due("some did nothing", nothing > 9 && nothing < 60, true);
  }
  private static void promise15NothingBehind() {
    test("Promise 15, undo: none behind a GRAMMAR, restore(); a FAULT, image() and refused calls leave what can be");
    TwinTrees x = busy();
    x.image(0);
    load(x, "kind");
    x.grammar();
    x.restore(1);
    x.restore(2);
    x.image(2);
    due("all are kept", x.undo(), 1);
    due("restore", x.restore(0), true);
    due("none", x.undo(), NONE);
    due("merge", x.merge(3, 5), 0);
    anew(x, SUMS);
    due("none", x.undo(), NONE);
  }
  private static void promise16Twins() {
    test("Promise 16, twins: of a STAGE (0 to 3); NONE: no such one, PLACES are TOO MANY");
    TwinTrees x = with(PAIRS);
    int[] want = {9, 6, 0, 0};
    for (int stage = 0; stage <= 3; stage++) due("STAGE " + stage, x.twins(stage), want[stage]);
    for (int stage : new int[] {-1, 4, FAR, FAR_BELOW}) due("STAGE " + stage, x.twins(stage), NONE);
    TwinTrees y = depth1(with(EIGHTY));
    due("80", y.twins(0) > 0, true);
    add(y, 1);
    for (int stage = 0; stage <= 3; stage++) due("TOO MANY", y.twins(stage), NONE);
  }
  private static void promise17Twin() {
    test("Promise 17, twin: 1, 0; 2: SUSPECTS; NONE: no such ones, TOO MANY");
    TwinTrees x = with("sign a;kind s;rule s a;rule s a;rule s;");
    due("REACHED, never a SUSPECT of 0", x.twin(2, 2, 0), 1);
    due("SUSPECTS", x.twin(2, 4, 1), 2);
    due("REACHED, no SUSPECTS", x.twin(2, 6, 1), 1);
    due("not REACHED", x.twin(2, 2, 1), 0);
    due("the last PLACE", x.twin(6, 6, 0), 1);
    for (int p : new int[] {-1, 7, FAR, FAR_BELOW}) { due("no PLACE " + p, x.twin(p, 0, 0), NONE); due("no PLACE " + p, x.twin(0, p, 0), NONE); }
    for (int stage : new int[] {-1, 4, FAR, FAR_BELOW}) due("no STAGE " + stage, x.twin(0, 0, stage), NONE);
    TwinTrees y = depth1(with(EIGHTY));
    due("80", y.twin(79, 79, 0), 1);
    due("80", y.twin(79, 80, 0), NONE);
    due("80", y.twin(80, 79, 0), NONE);
    add(y, 1);
    due("TOO MANY", y.twin(0, 0, 0), NONE);
  }
  private static void promise18Suspects() {
    test("Promise 18, suspects: of a STAGE (1 to 3): how many; NONE: no such one, TOO MANY");
    TwinTrees x = with("sign a;kind s;rule s a;rule s a;rule s;");
    due("STAGE 1", x.suspects(1), 9);
    due("STAGE 2", x.suspects(2), 0);
    due("STAGE 3", x.suspects(3), 0);
    for (int stage : new int[] {0, -1, 4, FAR, FAR_BELOW}) due("STAGE " + stage, x.suspects(stage), NONE);
    TwinTrees y = with(PAIRS);
    due("PROVEN", y.suspects(1) + y.suspects(2) + y.suspects(3), 0);
    TwinTrees e = with("sign a;kind s;kind t;rule s t t;rule t a;rule t;");
    e.merge(5, 7);
    due("of 2, MERGED", e.suspects(2) > 0, true);
    e.undo();
    due("of 2, alone", e.suspects(2) + e.suspects(3), 0);
    TwinTrees z = depth1(with(EIGHTY));
    due("80", z.suspects(1) > 0, true);
    add(z, 1);
    for (int stage = 0; stage <= 3; stage++) due("TOO MANY", z.suspects(stage), NONE);
  }
  private static void promise19SuspectAt() {
    test("Promise 19, suspectAt: the k-th (from 0; by the first PLACE, the second, the STAGE); NONE: none such, TOO MANY");
    TwinTrees x = with("sign a;kind s;rule s a;rule s a;");
    int[][] want = {{1, 1, 1}, {1, 3, 1}, {1, 5, 1}, {2, 4, 1}, {3, 1, 1}, {3, 5, 1}, {4, 2, 1}, {5, 1, 1}, {5, 3, 1}};
    for (int k = 0; k < 9; k++) for (int w = 0; w < 3; w++) due("suspectAt(" + k + ", " + w + ")", x.suspectAt(k, w), want[k][w]);
    for (int k : new int[] {-1, 9, FAR, FAR_BELOW}) due("none such", x.suspectAt(k, 0), NONE);
    for (int w : new int[] {-1, 3, FAR, FAR_BELOW}) due("none such", x.suspectAt(0, w), NONE);
    TwinTrees y = with(PAIRS);
    due("PROVEN", y.suspectAt(0, 0), NONE);
    TwinTrees z = depth1(with(EIGHTY));
    due("80", z.suspectAt(0, 0), 1);
    add(z, 1);
    due("TOO MANY", z.suspectAt(0, 0), NONE);
  }
  private static void promise19SuspectsOfAllStages() {
    test("Promise 19, suspectAt: by the STAGE last; as many as suspects() tells");
    TwinTrees x = with("sign a;kind s;kind t;rule s t t;rule t a;rule t;");
    x.merge(5, 7);
    int k = 0;
    for (int p = 0; p < 7; p++) for (int q = 0; q < 7; q++) for (int stage = 1; stage <= 3; stage++) if (x.twin(p, q, stage) == 2) {
      due("the first PLACE", x.suspectAt(k, 0), p);
      due("the second PLACE", x.suspectAt(k, 1), q);
      due("the STAGE", x.suspectAt(k, 2), stage);
      k++;
    }
    due("all", x.suspects(1) + x.suspects(2) + x.suspects(3), k);
    due("none behind", x.suspectAt(k, 0), NONE);
  }
  private static void promise20Proven() {
    test("Promise 20, proven: 1; 0; NONE: TOO MANY");
    due("nothing at all", new TwinTrees().proven(), 1);
    due("PAIRS", with(PAIRS).proven(), 1);
    due("SUMS", with(SUMS).proven(), 0);
    TwinTrees x = depth1(with(EIGHTY));
    due("80", x.proven(), 0);
    add(x, 1);
    due("TOO MANY", x.proven(), NONE);
    x.depth(0);
    due("not TOO MANY by DEPTH 0", x.proven(), 0);
    TwinTrees y = with(PAIRS);
    add(y, 0, 8, 8);
    due("with another RULE", y.proven(), 0);
    y.undo();
    due("without it", y.proven(), 1);
  }
  private static void promise21Shadow() {
    test("Promise 21, shadow: SIGNS; NONE: it is PROVEN, TOO MANY");
    due("PROVEN", with(PAIRS).shadow(), NONE);
    due("nothing at all", new TwinTrees().shadow(), NONE);
    due("no SIGNS", with("kind s;rule s;rule s;").shadow(), 0);
    TwinTrees x = depth1(with(EIGHTY));
    due("80", x.shadow(), 0);
    add(x, 1);
    due("TOO MANY", x.shadow(), NONE);
  }
  private static void promise22Trees() {
    test("Promise 22, trees: of the row on the tape (a byte each, 8 at most); NONE: not as told, there are no KINDS; the tape is empty then");
    TwinTrees x = with("sign a;sign b;sign c;kind s;rule s s s;rule s a;rule s b;");
    due("of none", trees(x), 0);
    due("of one", trees(x, 1), 1);
    due("SIGN 2", trees(x, 2), 0);
    due("SIGN 3", trees(x, 3), NONE);
    due("the tape", x.count(7), 0);
    due("a KIND", trees(x, 8), NONE);
    due("255", trees(x, 0, 255), NONE);
    due("the last is none", trees(x, 0, 0, 0, 0, 0, 0, 0, 3), NONE);
    due("eight", trees(x, 0, 1, 0, 1, 0, 1, 0, 1), 429);
    due("the tape", x.count(7), 0);
    due("nine", trees(x, 0, 1, 0, 1, 0, 1, 0, 1, 0), NONE);
    due("the tape", x.count(7), 0);
    due("940", trees(x, new int[940]), NONE);
    due("the tape", x.count(7), 0);
    due("no KINDS", trees(new TwinTrees()), NONE);
    due("no KINDS", trees(with("sign a;"), 0), NONE);
    due("no SIGNS", trees(with("kind s;rule s;")), 1);
    due("no RULES", trees(with("kind s;")), 0);
  }
  private static void promise23Tree() {
    test("Promise 23, tree: the k-th (from 0); NONE: none such, or ahead of any");
    due("ahead of any, no SIGN is a row", with(PAIRS).tree(0), NONE);
    TwinTrees x = with(SUMS);
    due("ahead of any", x.tree(0), NONE);
    due("NONE is not any", trees(x, 9), NONE);
    due("ahead of any", x.tree(0), NONE);
    due("two", trees(x, 0, 1, 0, 1, 0), 2);
    tree(x, 0, 0, 1, 0, 1, 1);
    tree(x, 1, 0, 0, 1, 1, 1);
    for (int k : new int[] {2, -1, 9998, 9999, FAR, FAR_BELOW}) due("none such, " + k, x.tree(k), NONE);
    due("none", trees(x, 1), 0);
    due("none such", x.tree(0), NONE);
    due("of no KINDS", new TwinTrees().tree(0), NONE);
  }
  private static void promise23LatestRow() {
    test("Promise 23, tree: of the row of the latest trees() that was not NONE, by RULES as they are now");
    TwinTrees x = with(SUMS);
    due("a row", trees(x, 0, 1, 0), 1);
    due("NONE", trees(x, 2), NONE);
    due("NONE", trees(x, 0, 0, 0, 0, 0, 0, 0, 0, 0), NONE);
    due("a WITNESS is none", x.witness(5), 5);
    tree(x, 0, 0, 1, 1);
    due("rows sought in vain are none", x.witness(4), NONE);
    tree(x, 0, 0, 1, 1);
    x.drop(1);
    due("by RULES as they are now", x.tree(0), NONE);
    due("a RULE alike", add(x, 0, 0), 0);
    due("another one alike", add(x, 0, 0), 0);
    tree(x, 3, 0, 2, 2);
    due("none such", x.tree(4), NONE);
    TwinTrees y = with("sign a;kind s;rule s s;rule s a;");
    due("s, a or a", trees(y, 0), 2);
    y.drop(0);
    tree(y, 0, 0);
    due("a alone now", y.tree(1), NONE);
    anew(x, "kind s;rule s;");
    due("no such SIGNS now", x.tree(0), NONE);
    anew(x, "sign a;sign b;");
    due("no KINDS now", x.tree(0), NONE);
    anew(x, "sign b;sign a;kind s;rule s b a b;");
    tree(x, 0, 0);
    due("another row", trees(x), 0);
    due("none such", x.tree(0), NONE);
  }
  /** The RULES of tree(0) of no SIGN, if the first RULE of each KIND is taken as long as it can be; the last makes none. */
  private static int firstTree(int[][] makes, int kind, int[] above, int[] out, int at) {
    int[] now = above.clone();
    now[kind]++;
    boolean can = true;
    for (int k : makes[kind]) can &= now[k] < 2;
    if (at < out.length) out[at] = can ? kind : makes.length + kind;
    int next = at + 1;
    if (can) for (int k : makes[kind]) next = firstTree(makes, k, now, out, next);
    return next;
  }
  private static TwinTrees firstTreeIs(int[][] makes, int size, int[] out) {
    StringBuilder b = new StringBuilder();
    String names = "stuvw";
    for (int k = 0; k < makes.length; k++) b.append("kind ").append(names.charAt(k)).append(';');
    for (int k = 0; k < makes.length; k++) {
      b.append("rule ").append(names.charAt(k));
      for (int m : makes[k]) b.append(' ').append(names.charAt(m));
      b.append(';');
    }
    for (int k = 0; k < makes.length; k++) b.append("rule ").append(names.charAt(k)).append(';');
    due("RULES of the first TREE", firstTree(makes, 0, new int[makes.length], out, 0), size);
    TwinTrees x = with(b.toString());
    due("many TREES", trees(x), 9999);
    return x;
  }
  private static void promise23SixHundredRules() {
    test("Promise 23, tree: NONE: it has more than 600 RULES");
    int[] want = new int[601];
    TwinTrees x = firstTreeIs(new int[][] {{3, 4, 4}, {0, 0}, {1, 1, 1}, {1, 2, 3}, {1, 3, 3}}, 600, want);
    due("600", x.tree(0), 600);
    for (int i = 0; i < 480; i++) due("RULE " + i, x.treeAt(i), want[i]);
    due("the last", x.treeAt(599), want[599]);
    due("behind", x.treeAt(600), NONE);
    TwinTrees y = firstTreeIs(new int[][] {{2, 2, 2}, {3, 3}, {1, 1, 3}, {0, 1, 2}}, 601, want);
    due("ahead of any", y.treeAt(0), NONE);
    due("601", y.tree(0), NONE);
    due("none is told", y.treeAt(0), NONE);
    anew(y, SUMS);
    due("as if it were not asked for", trees(y, 0, 1, 0), 1);
    tree(y, 0, 0, 1, 1);
    TwinTrees z = firstTreeIs(new int[][] {{3, 4, 4}, {0, 0}, {1, 1, 1}, {1, 2, 3}, {1, 3, 3}}, 600, want);
    z.tree(0);
    for (int i = 480; i < 600; i++) due("RULE " + i, z.treeAt(i), want[i]);
  }
  private static void promise23NinetyNineNinetyEight() {
    test("Promise 23, tree: NONE: k above 9998");
    TwinTrees x = with("sign a;kind s;rule s s s;rule s s s;rule s a;rule s a;");
    due("very many", trees(x, 0, 0, 0, 0, 0, 0, 0, 0), 9999);
    due("9998", x.tree(9998), 15);
    due("told", x.treeAt(0), 0);
    for (int k : new int[] {9999, 10000, FAR, FAR_BELOW, -1}) due("tree(" + k + ")", x.tree(k), NONE);
    due("the latest stays", x.treeAt(14) >= 2, true);
    due("behind", x.treeAt(15), NONE);
  }
  private static void promise24TreeAt() {
    test("Promise 24, treeAt: i-th (from 0) of the latest tree() that was not NONE; NONE: none such, or ahead of any");
    TwinTrees x = with(SUMS);
    due("ahead of any", x.treeAt(0), NONE);
    trees(x, 0, 1, 0);
    due("ahead of any", x.treeAt(0), NONE);
    x.tree(1);
    due("NONE is not any", x.treeAt(0), NONE);
    tree(x, 0, 0, 1, 1);
    for (int i : new int[] {-1, 3, 599, 600, FAR, FAR_BELOW}) due("none such", x.treeAt(i), NONE);
    due("NONE", x.tree(1), NONE);
    due("the latest stays", x.treeAt(0) * 100 + x.treeAt(1) * 10 + x.treeAt(2), 11);
    trees(x, 0);
    due("trees() leaves it", x.treeAt(2), 1);
    tree(x, 0, 1);
    anew(x, "");
    due("a new GRAMMAR leaves it", x.treeAt(0), 1);
  }
  private static void promise25Witness() {
    test("Promise 25, witness: n (0 to 5): how many SIGNS; NONE: there is none, not as told, there are no KINDS");
    TwinTrees x = with(SUMS);
    for (int n = 0; n <= 4; n++) due("of " + n, x.witness(n), NONE);
    due("of 5", x.witness(5), 5);
    for (int n : new int[] {-1, 6, FAR, FAR_BELOW}) due("of " + n, x.witness(n), NONE);
    trees(x, 1, 1, 1, 1, 1, 1, 1, 1);
    due("whatever row was asked for", x.witness(5), 5);
    due("whatever row was asked for", x.witnessAt(0) * 10 + x.witnessAt(1), 1);
    TwinTrees w = with("sign a;sign b;kind s;rule s a;rule s a;rule s b;rule s b;");
    due("a row of the other SIGN", trees(w, 1), 2);
    due("the least", w.witness(5), 1);
    due("the least", w.witnessAt(0), 0);
    due("there is none", with(PAIRS).witness(5), NONE);
    for (int n = 0; n <= 5; n++) { due("no KINDS", new TwinTrees().witness(n), NONE); due("no KINDS", with("sign a;").witness(n), NONE); }
    TwinTrees y = with("kind s;rule s;rule s;");
    for (int n = 0; n <= 5; n++) due("no SIGN is needed", y.witness(n), 0);
    for (int n : new int[] {-1, 6, FAR, FAR_BELOW}) due("not as told, though no SIGN is needed", y.witness(n), NONE);
    for (int n = 0; n <= 5; n++) due("no SIGNS, no two TREES", with("kind s;rule s;").witness(n), NONE);
    TwinTrees z = with("sign a;kind s;rule s a;rule s a;");
    due("of 0", z.witness(0), NONE);
    for (int n = 1; n <= 5; n++) due("of the fewest", z.witness(n), 1);
  }
  private static void promise26WitnessAt() {
    test("Promise 26, witnessAt: k-th by the latest witness() that was not NONE; NONE: none such, or ahead of any");
    TwinTrees x = with(SUMS);
    due("ahead of any", x.witnessAt(0), NONE);
    x.witness(4);
    due("NONE is not any", x.witnessAt(0), NONE);
    x.witness(5);
    int[] want = {0, 1, 0, 1, 0};
    for (int k = 0; k < 5; k++) due("SIGN " + k, x.witnessAt(k), want[k]);
    for (int k : new int[] {-1, 5, FAR, FAR_BELOW}) due("none such", x.witnessAt(k), NONE);
    x.witness(4);
    x.witness(6);
    x.witness(-1);
    due("the latest stays", x.witnessAt(4), 0);
    anew(x, "");
    x.witness(5);
    due("the latest stays", x.witnessAt(3), 1);
    anew(x, "sign a;sign b;kind s;rule s b;rule s b;");
    x.witness(5);
    due("of one", x.witnessAt(0), 1);
    due("of one", x.witnessAt(1), NONE);
    add(x, 0);
    add(x, 0);
    due("of none", x.witness(5), 0);
    due("of none", x.witnessAt(0), NONE);
  }
  private static void promise27Tag() {
    test("Promise 27, tag: how many bytes; NONE: no such one, START, END");
    TwinTrees x = with(SUMS);
    for (int i : new int[] {0, 1, 8, -1, FAR, FAR_BELOW}) due("tag(" + i + ")", x.tag(i), NONE);
    due("the first", x.tag(2), 12);
    due("the last", x.tag(7), 8);
    due("the fewest", with("kind s;rule s;").tag(2), 6);
    due("the most", with("kind abcdefg;rule abcdefg abcdefg abcdefg abcdefg;").tag(5), 36);
    due("no ITEMS", new TwinTrees().tag(2), NONE);
    TwinTrees y = with(FULL);
    due("the last of all", y.tag(41), 12);
    due("none behind", y.tag(42), NONE);
  }
  private static void promise28ByteAt() {
    test("Promise 28, byteAt: byte i of the latest TAG; NONE: none such");
    TwinTrees x = with(SUMS);
    due("ahead of any", x.byteAt(0), NONE);
    x.tag(0);
    due("NONE is not any", x.byteAt(0), NONE);
    tag(x, 2, "s is . s p s");
    for (int i : new int[] {-1, 12, FAR, FAR_BELOW}) due("none such", x.byteAt(i), NONE);
    x.tag(8);
    x.tag(1);
    due("the latest stays", x.byteAt(11), 's');
    tag(x, 7, "s is a .");
    due("of the one ahead: none", x.byteAt(8), NONE);
    anew(x, "");
    due("the latest stays", x.byteAt(7), '.');
  }
  private static void promise29Drawn() {
    test("Promise 29, drawn: n (1 to 40) DEEDS: how many were done; NONE: not as told");
    TwinTrees x = busy();
    String before = all(x);
    for (int n : new int[] {0, 41, -1, FAR, FAR_BELOW}) for (int seed : new int[] {0, 7, FAR}) due("drawn(" + n + ", " + seed + ")", x.drawn(n, seed), NONE);
    stays(x, before);
    due("undo", x.undo(), 1);
    drawnAsTold(SUMS, 1, 11);
    drawnAsTold(SUMS, 39, 12);
    drawnAsTold(SUMS, 40, 13);
    drawnAsTold(SUMS, 40, FAR_BELOW);
    TwinTrees y = with(SUMS);
    due("forty at once", y.drawn(40, 13) > 1, true);
    due("are undone at once", y.undo(), 0);
    same("are undone at once", so(y), so(with(SUMS)));
  }
  private static void promise30Odds() {
    test("Promise 30, odds: of n (1 to 6) seeds x, x and 1, .. by how many it is PROVEN behind 3 DEEDS; NONE: not as told");
    TwinTrees x = busy();
    String before = all(x);
    for (int n : new int[] {0, 7, -1, FAR, FAR_BELOW}) for (int seed : new int[] {0, 7, FAR}) due("odds(" + n + ", " + seed + ")", x.odds(n, seed), NONE);
    int[] seen = new int[2];
    for (int seed : new int[] {0, 5, -3, FAR - 2, FAR, FAR_BELOW}) {
      int sure = 0;
      for (int n = 1; n <= 6; n++) {
        TwinTrees y = with(SUMS);
        y.merge(2, 4);
        y.depth(1);
        y.drawn(3, seed + n - 1);
        int proven = y.proven() == 1 ? 1 : 0;
        seen[proven]++;
        sure += proven;
        due("odds(" + n + ", " + seed + ")", x.odds(n, seed), sure);
      }
    }
    due("some are, some are not", seen[0] > 0 && seen[1] > 0, true);
    stays(x, before);
    due("undo", x.undo(), 1);
  }
  private static void promise30OddsOfTooMany() {
    test("Promise 30, odds: TOO MANY: it is not PROVEN");
    // by DEPTH 1 KIND 0 has 5 ITEMS by 17 CALLERS
    String grammar = "sign a;sign b;kind s;kind t;rule s a s b;rule s;" + "rule t s s s;".repeat(5);
    TwinTrees x = depth1(with(grammar));
    due("TOO MANY", x.count(5), NONE);
    int many = 0, sure = 0;
    for (int seed = 0; seed < 60; seed++) {
      TwinTrees y = depth1(with(grammar));
      y.drawn(3, seed * 7919);
      int proven = y.proven();
      if (proven == NONE) many++;
      if (proven == 1) sure++;
      due("odds(1, " + seed * 7919 + ")", x.odds(1, seed * 7919), proven == 1 ? 1 : 0);
    }
    due("some of each", many > 3 && sure > 3, true);
    due("x is as it was", x.count(5), NONE);
  }
  private static void promise31BookLives() {
    test("Promise 31, book: lives 0: all staying as it is, 1: lived as far as it is not WRONG; -1000: another lives (the tape stays)");
    TwinTrees x = with(SUMS);
    load(x, "merge 2 3;drop 9;depth 1;");
    for (int lives : new int[] {-1, 2, FAR, FAR_BELOW}) { due("lives " + lives, x.book(lives), -1000); due("the tape stays", x.count(7), 25); }
    due("nothing is told", x.told(0), NONE);
    String before = so(x);
    due("judged", x.book(0), 1);
    same("all stays", so(x), before);
    due("the tape", x.count(7), 0);
    due("nothing to undo", x.undo(), NONE);
    due("lived", book(x, "merge 2 3;drop 9;depth 1;", 1), 1);
    due("ahead", x.count(4), 7);
    due("not behind", x.count(6), 0);
    due("undo", x.undo(), 0);
    due("WRONG at first", book(x, "depth 0;merge 2 3;", 1), 0);
    same("all stays", so(x), before);
    due("none WRONG", book(x, "merge 2 3;drop 0;depth 1;rule s p;", 1), NONE);
    due("all are lived", x.count(2) * 100 + x.count(4) * 10 + x.count(6), 261);
    due("undone at once", x.undo(), 0);
    same("undone at once", so(x), before);
    due("a RULE of three", book(x, "rule s a s p;rule s p a;rule s;", 1), NONE);
    int[][] lived = {{0, 3, 0, 8, 1}, {0, 2, 1, 0, NONE}, {0, 0, NONE, NONE, NONE}};
    for (int r = 0; r < 3; r++) for (int w = 0; w < 5; w++) due("rule(" + (r + 2) + ", " + w + ") as lived", x.rule(r + 2, w), lived[r][w]);
    load(x, "!");
    due("another lives ahead of a FAULT", x.book(2), -1000);
    due("a FAULT", x.book(1), -2);
  }
  private static void promise31BookAnswers() {
    test("Promise 31, book: the LINE that is WRONG (from 0); NONE: none; -2 less the place of a FAULT");
    bookTaken("drop 2;", 0);
    bookTaken("depth 1;".repeat(2), 1);
    bookTaken("depth 1;depth 0;".repeat(19) + "depth 1;depth 1;", 39);
    bookTaken("depth 1;depth 0;".repeat(20), NONE);
    bookRefused("!", 0, 1);
    bookRefused("depth 1;!", 8, 1);
    bookRefused("depth 1;" + blanks(393), 400, 1);
    for (String line : new String[] {"merge 2 2;", "drop 2;", "depth 0;", "merge 8 2;"}) bookTaken("rule s a;drop 2;" + line, 2);
  }
  private static void whyWrong(String grammar, String text, int... want) {
    TwinTrees x = with(grammar);
    due("book", book(x, text, 0), want[0] == 0 ? NONE : want[1]);
    for (int w = 0; w < 4; w++) due("told(" + w + ") of " + text, x.told(w), want[w]);
  }
  private static void promise32Told() {
    test("Promise 32, told: 0 why it was WRONG, 1 LINES ahead of it (without one: all), 2 RULES then, 3 CLASSES then");
    whyWrong(SUMS, "", 0, 0, 2, 8);
    whyWrong(SUMS, "rule s a;merge 2 9;depth 1;", 0, 3, 3, 9);
    whyWrong(FULL, "rule s;", 1, 0, 10, 42);
    whyWrong(SUMS, "merge 2 3;merge 3 2;", 11, 1, 2, 7);
    whyWrong(SUMS, "merge 7 7;", 11, 0, 2, 8);
    whyWrong(SUMS, "merge 8 2;", 19, 0, 2, 8);
    whyWrong(SUMS, "merge 2 8;", 19, 0, 2, 8);
    whyWrong(FULL, "merge 41 2;merge 41 3;drop 9;merge 2 38;", 19, 3, 9, 38);
    whyWrong(SUMS, "drop 1;drop 1;", 29, 1, 1, 6);
    whyWrong(SUMS, "drop 0;drop 0;drop 0;", 29, 2, 0, 2);
    whyWrong(SUMS, "depth 0;", 31, 0, 2, 8);
    whyWrong(SUMS, "depth 1;depth 1;", 31, 1, 2, 8);
  }
  private static void promise32ToldOfTheLatest() {
    test("Promise 32, told: of the latest book() that had no FAULT (and was not -1000); NONE: another what, or ahead of any");
    TwinTrees x = with(SUMS);
    for (int w = -1; w <= 4; w++) due("ahead of any", x.told(w), NONE);
    book(x, "!", 0);
    x.book(2);
    for (int w = -1; w <= 4; w++) due("ahead of any", x.told(w), NONE);
    book(x, "drop 5;", 0);
    for (int w : new int[] {-1, 4, FAR, FAR_BELOW}) due("another what", x.told(w), NONE);
    book(x, "depth 1;!", 1);
    x.book(-1);
    due("the latest stays", x.told(0) * 1000 + x.told(1) * 100 + x.told(2) * 10 + x.told(3), 29028);
    x.merge(2, 3);
    anew(x, "");
    due("the latest stays", x.told(3), 8);
    book(x, "depth 1;", 1);
    due("the next", x.told(0) * 1000 + x.told(1) * 100 + x.told(2) * 10 + x.told(3), 102);
  }
  private static void promise33Sentence() {
    test("Promise 33, sentence: how many ONES (each not, bracket and other one); -1 less the place of a FAULT: it stays");
    sentenceTaken("first", 1);
    sentenceTaken("not first", 2);
    sentenceTaken("(first)", 2);
    sentenceTaken("not (first or (last and not alone))", 7);
    sentenceTaken("of s and next p or rule = 1 and dot < 2 or number > 3", 5);
    sentenceRefused("first!", 5, 1);
    sentenceRefused("of p", 3, 3);
    TwinTrees x = with(SUMS);
    sentence(x, "fist");
    due("there is none still", x.said(NONE), NONE);
    sentence(x, "first");
    sentence(x, "last or");
    due("it stays", x.said(0), 2);
    sentence(x, "last");
    due("the next", x.said(0), 5);
    for (int i = 0; i < 12; i++) sayable(x, "number = 2" + " or number = 3".repeat(10) + " or number = " + (4 + i % 4), 2, 3, 4 + i % 4);
    due("without KINDS", sentence(new TwinTrees(), "first"), 1);
    due("without KINDS", sentence(new TwinTrees(), "of s"), -4);
  }
  private static void promise34Said() {
    test("Promise 34, said: how many (k NONE), or the k-th; NONE: there is no SENTENCE, none such");
    TwinTrees x = with(SUMS);
    for (int k : new int[] {NONE, 0, 1, -2, FAR, FAR_BELOW}) due("no SENTENCE", x.said(k), NONE);
    sayable(x, "first or last", 2, 5, 6, 7);
    for (int k : new int[] {4, -2, FAR, FAR_BELOW}) due("none such", x.said(k), NONE);
    sayable(x, "dot > 3");
    due("none such", x.said(0), NONE);
    sayable(x, "dot > 2", 5);
    x.drop(0);
    due("of ITEMS as they are", x.said(NONE), 0);
    x.undo();
    due("of ITEMS as they are", x.said(0), 5);
    TwinTrees y = new TwinTrees();
    sayable(y, "first");
  }
  private static void promise35Image() {
    test("Promise 35, image: kept in place k (0, 1): true; false: no such one");
    TwinTrees x = busy();
    String before = all(x);
    for (int k : new int[] {-1, 2, FAR, FAR_BELOW}) due("image(" + k + ")", x.image(k), false);
    due("nothing is kept", x.restore(0) || x.restore(1), false);
    due("0", x.image(0), true);
    due("1 is another", x.restore(1), false);
    due("1", x.image(1), true);
    stays(x, before);
    due("undo", x.undo(), 1);
    due("undone is not in it", x.restore(1), true);
    stays(x, before);
    x.drop(0);
    due("another is kept", x.image(1), true);
    due("in place 0 as ever", x.restore(0), true);
    stays(x, before);
    due("the latest in place 1", x.restore(1), true);
    due("the latest in place 1", x.count(2), 1);
  }
  private static void promise36Restore() {
    test("Promise 36, restore: as kept; the tape, and what other calls told last, stays; nothing can be undone; false: no such one, or nothing is kept");
    TwinTrees x = new TwinTrees();
    for (int k : new int[] {0, 1, -1, 2, FAR, FAR_BELOW}) due("restore(" + k + ")", x.restore(k), false);
    x.image(1);
    TwinTrees y = busy();
    String busy = so(y);
    y.image(1);
    anew(y, PAIRS);
    y.merge(2, 3);
    trees(y, 0, 1);
    y.tree(0);
    add(y, 0, 8, 8);
    y.witness(0);
    y.tag(3);
    book(y, "depth 1;drop 8;", 0);
    sentence(y, "last or of a");
    load(y, "abc");
    String last = told(y);
    for (int k : new int[] {0, -1, 2, FAR, FAR_BELOW}) due("restore(" + k + ")", y.restore(k), false);
    due("it stays", y.count(2), 3);
    due("restore(1)", y.restore(1), true);
    same("as kept", so(y), busy);
    same("what was told last stays", told(y), last);
    due("the FAULT stays", y.fault(), 3);
    due("the tape stays", y.count(7), 3);
    due("nothing to undo", y.undo(), NONE);
    due("the row stays", y.tree(0), NONE);
    y.depth(0);
    y.drop(0);
    due("again", y.restore(1), true);
    same("as kept", so(y), busy);
    due("a SENTENCE less", x.restore(1), true);
    sentence(x, "first");
    due("a SENTENCE less", x.restore(1), true);
    due("a SENTENCE less", x.said(NONE), NONE);
    y.image(0);
    String both = all(y);
    for (int k : new int[] {-32, -31, -2, -1, 2, 31, 32, 33, 64, FAR, FAR_BELOW, FAR_BELOW + 1}) {
      due("both are kept, restore(" + k + ")", y.restore(k), false);
      due("both are kept, image(" + k + ")", y.image(k), false);
    }
    stays(y, both);
  }
  private static void promise37Count() {
    test("Promise 37, count: 5 NONE: TOO MANY; NONE for another what");
    TwinTrees x = with(FULL);
    int[] want = {4, 5, 10, 42, 42, 42, 0, 0};
    for (int w = 0; w < 8; w++) due("count(" + w + ")", x.count(w), want[w]);
    for (int w : new int[] {-1, 8, FAR, FAR_BELOW}) due("count(" + w + ")", x.count(w), NONE);
    load(x, blanks(939));
    due("bytes", x.count(7), 939);
    TwinTrees y = depth1(with(EIGHTY));
    due("80", y.count(5), 80);
    add(y, 1);
    due("TOO MANY", y.count(5), NONE);
    due("DEPTH", y.count(6), 1);
    due("CLASSES", y.count(4), 16);
  }

  private static boolean isTest(Method m) { return m.getParameterCount() == 0 && (m.getName().startsWith("term") || m.getName().startsWith("promise")); }
  /** A call that throws is wrong, too. */
  private static void run(Method m) throws IllegalAccessException {
    try {
      m.invoke(null);
    } catch (InvocationTargetException e) {
      wrong++;
      System.out.println(title + ": " + e.getCause());
    }
  }
  public static void main(String[] args) throws IllegalAccessException {
    test("NONE");
    due("NONE", TwinTrees.NONE, NONE);
    Method[] tests = EdgeTest.class.getDeclaredMethods();
    Arrays.sort(tests, Comparator.comparing(Method::getName));
    int ran = 0;
    for (Method m : tests) if (isTest(m)) { run(m); ran++; }
    System.out.println(ran + " tests, " + (wrong == 0 ? asked + " answers are as due" : wrong + " answers are not as due"));
    if (wrong != 0) System.exit(1);
  }
}
