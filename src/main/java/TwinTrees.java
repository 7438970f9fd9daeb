/** An ambiguity verifier for grammars; ../shared/DOC.md says what each call answers. */
public final class TwinTrees {
    public static final int NONE = -1;

    private static final int MOST_BYTES = 940;
    private static final int MOST_SIGNS = 4;
    private static final int MOST_KINDS = 5;
    private static final int MOST_RULES = 10;
    private static final int MOST_SYMBOLS = 3;
    private static final int MOST_ITEMS = 42;
    private static final int MOST_PLACES = 80;
    private static final int MOST_LINES = 40;
    private static final int MOST_ONES = 20;
    private static final int MOST_WITHIN = 8;
    private static final int MOST_UNDONE = 8;
    private static final int MOST_ROW = 8;
    private static final int MOST_WITNESS = 5;
    private static final int MOST_TOLD = 9999;
    private static final int MOST_NODES = 600;

    private static final int FIRST_KIND = 8;
    private static final int START = 0;
    private static final int END = 1;

    private static final int TOKEN_END = 0;
    private static final int TOKEN_WORD = 1;
    private static final int TOKEN_NUMBER = 2;
    private static final int TOKEN_MARK = 3;
    private static final int TOKEN_BAD = 4;

    private static final int CANNOT_COME = 1;
    private static final int NUMBER_AMISS = 2;
    private static final int NAME_AMISS = 3;
    private static final int ONE_MORE = 4;

    // a WORD is held as its letters, a byte each, the last one lowest
    private static final long WORD_SIGN = 0x7369676EL;
    private static final long WORD_KIND = 0x6B696E64L;
    private static final long WORD_RULE = 0x72756C65L;
    private static final long WORD_DROP = 0x64726F70L;
    private static final long WORD_MERGE = 0x6D65726765L;
    private static final long WORD_DEPTH = 0x6465707468L;
    private static final long WORD_OR = 0x6F72L;
    private static final long WORD_AND = 0x616E64L;
    private static final long WORD_NOT = 0x6E6F74L;
    private static final long WORD_FIRST = 0x6669727374L;
    private static final long WORD_LAST = 0x6C617374L;
    private static final long WORD_ALONE = 0x616C6F6E65L;
    private static final long WORD_OF = 0x6F66L;
    private static final long WORD_NEXT = 0x6E657874L;
    private static final long WORD_DOT = 0x646F74L;
    private static final long WORD_NUMBER = 0x6E756D626572L;
    private static final long[] RESERVED = {
        WORD_SIGN, WORD_KIND, WORD_RULE, WORD_DROP, WORD_MERGE, WORD_DEPTH, WORD_OR, WORD_AND,
        WORD_NOT, WORD_FIRST, WORD_LAST, WORD_ALONE, WORD_OF, WORD_NEXT, WORD_DOT, WORD_NUMBER
    };

    private static final int OP_FIRST = 0;
    private static final int OP_LAST = 1;
    private static final int OP_ALONE = 2;
    private static final int OP_OF = 3;
    private static final int OP_NEXT = 4;
    private static final int OP_NOT = 5;
    private static final int OP_AND = 6;
    private static final int OP_OR = 7;
    private static final int OP_RULE = 10;
    private static final int OP_DOT = 13;
    private static final int OP_NUMBER = 16;

    // a BOOK's LINE tells what it does by the tens of what is WRONG with it
    private static final int LINE_ADD = 0;
    private static final int LINE_MERGE = 10;
    private static final int LINE_DROP = 20;
    private static final int LINE_DEPTH = 30;

    // the sorts of STEPS: SIGNS, OPENING by RULE, CLOSING by RULE
    private static final int OPENS = 4;
    private static final int CLOSES = 14;
    private static final int SORTS = 24;

    // how often each KIND stands above, with one part of the row: a digit of 3 for each KIND
    private static final int[] POWER = {1, 3, 9, 27, 81, 243};

    private final Tape tape = new Tape();
    private final Parser parser = new Parser(tape);
    private final Model model = new Model();
    private final Model scratch = new Model();
    private final Sentence condition = new Sentence();
    private final Book lines = new Book();
    private final Draws draws = new Draws();
    private final Kinds facts = new Kinds();
    private final Places places = new Places();
    private final Twins pairs = new Twins(places);
    private final Chart chart = new Chart();
    private final Picker picker = new Picker(chart);
    private final Model[] past = new Model[MOST_UNDONE];
    private final Model[] keptModel = new Model[2];
    private final Sentence[] keptCondition = new Sentence[2];
    private final int[] tagBytes = new int[MOST_ITEMS];
    private int pastCount;
    private int keptMask;
    private int tagSize;

    public TwinTrees() {
        for (int i = 0; i < past.length; i++) {
            past[i] = new Model();
        }
        for (int i = 0; i < keptModel.length; i++) {
            keptModel[i] = new Model();
            keptCondition[i] = new Sentence();
        }
    }

    public int feed(int a, int b, int c, int d, int e) {
        if (tape.size + 20 > MOST_BYTES) {
            return NONE;
        }
        tape.put(a);
        tape.put(b);
        tape.put(c);
        tape.put(d);
        tape.put(e);
        return tape.size;
    }

    public boolean end(int n) {
        if (n < 0 || n > tape.size) {
            return false;
        }
        tape.size = n;
        return true;
    }

    public int grammar() {
        scratch.clear();
        int told = parser.readGrammar(scratch);
        tape.size = 0;
        if (told == NONE) {
            return -1 - parser.faultPlace;
        }
        model.copyFrom(scratch);
        condition.clear();
        pastCount = 0;
        changed();
        return told;
    }

    public int fault() {
        return parser.fault;
    }

    public int rule(int r, int what) {
        if (r < 0 || r >= model.rules) {
            return NONE;
        }
        if (what == 0) {
            return model.ruleKind[r];
        }
        if (what == 1) {
            return model.ruleSize[r];
        }
        if (what >= 2 && what <= 4) {
            return model.symbolAt(r, what - 2);
        }
        return what == 5 ? model.ruleFirst[r] : NONE;
    }

    public int kind(int k, int what) {
        if (k < 0 || k >= model.kinds) {
            return NONE;
        }
        if (!facts.fresh) {
            facts.learn(model);
        }
        switch (what) {
            case 0:
                return model.rulesOf(k);
            case 1:
                return facts.empty >> k & 1;
            case 2:
                return facts.begins[k];
            case 3:
                return facts.follows[k];
            case 4:
                return facts.endless >> k & 1;
            case 5:
                return facts.used >> k & 1;
            default:
                return NONE;
        }
    }

    public int item(int i, int what) {
        if (i < 0 || i >= model.items) {
            return NONE;
        }
        switch (what) {
            case 0:
                return model.itemRule[i];
            case 1:
                return model.itemDot[i];
            case 2:
                return model.nextOf(i);
            case 3:
                return model.group[i];
            case 4:
                return model.groupSize(model.group[i]);
            default:
                return NONE;
        }
    }

    public int place(int p, int what) {
        if (!isPlace(p)) {
            return NONE;
        }
        switch (what) {
            case 0:
                return places.placeGroup[p];
            case 1:
                return places.placeCaller[p];
            case 2:
                return places.stepCount(p);
            case 3:
                return places.comersTo(p);
            default:
                return NONE;
        }
    }

    public int step(int p, int k, int what) {
        if (!isPlace(p) || k < 0 || what < 0 || what > 1) {
            return NONE;
        }
        return places.stepAt(p, k, what);
    }

    public int merge(int i, int j) {
        scratch.copyFrom(model);
        return settled(model.unite(i, j));
    }

    public int depth(int d) {
        scratch.copyFrom(model);
        return settled(model.deepen(d));
    }

    public int drop(int r) {
        scratch.copyFrom(model);
        return settled(model.removeRule(r));
    }

    public int add(int k) {
        int size = tape.size;
        int first = tape.byteOr(0, NONE);
        int second = tape.byteOr(1, NONE);
        int third = tape.byteOr(2, NONE);
        tape.size = 0;
        scratch.copyFrom(model);
        return settled(model.appendRule(k, size, first, second, third));
    }

    public int undo() {
        if (pastCount <= 0) {
            return NONE;
        }
        pastCount--;
        model.copyFrom(past[pastCount]);
        changed();
        return pastCount;
    }

    public int twins(int stage) {
        if (stage < 0 || stage > 3 || !followed()) {
            return NONE;
        }
        return pairs.countIn(pairs.reached, stage);
    }

    public int twin(int p, int q, int stage) {
        if (stage < 0 || stage > 3 || !isPlace(p) || !isPlace(q) || !followed()) {
            return NONE;
        }
        if (!pairs.holds(pairs.reached, p, q, stage)) {
            return 0;
        }
        pairs.findSuspects();
        return pairs.holds(pairs.suspected, p, q, stage) ? 2 : 1;
    }

    public int suspects(int stage) {
        if (stage < 1 || stage > 3 || !followed()) {
            return NONE;
        }
        pairs.findSuspects();
        return pairs.countIn(pairs.suspected, stage);
    }

    public int suspectAt(int k, int what) {
        if (k < 0 || what < 0 || what > 2 || !followed()) {
            return NONE;
        }
        pairs.findSuspects();
        return pairs.suspectPart(k, what);
    }

    public int proven() {
        if (!followed()) {
            return NONE;
        }
        return pairs.meets ? 0 : 1;
    }

    public int shadow() {
        if (!followed() || !pairs.meets) {
            return NONE;
        }
        return pairs.fewest;
    }

    public int trees() {
        boolean good = model.kinds > 0 && tape.size <= MOST_ROW;
        for (int i = 0; i < tape.size; i++) {
            good = good && tape.byteOr(i, NONE) < model.signs;
        }
        if (good) {
            chart.ask(tape);
        }
        tape.size = 0;
        return good ? chart.answer(model) : NONE;
    }

    public int tree(int k) {
        if (k < 0 || model.kinds == 0 || chart.askedSize < 0 || k >= chart.answer(model)) {
            return NONE;
        }
        return picker.pick(k);
    }

    public int treeAt(int i) {
        return i >= 0 && i < picker.pickedSize ? picker.picked[i] : NONE;
    }

    public int witness(int n) {
        if (n < 0 || n > MOST_WITNESS || model.kinds == 0) {
            return NONE;
        }
        return chart.findWitness(model, n);
    }

    public int witnessAt(int k) {
        return k >= 0 && k < chart.witnessSize ? chart.witnessRow[k] : NONE;
    }

    public int tag(int i) {
        if (i < 2 || i >= model.items) {
            return NONE;
        }
        int r = model.itemRule[i];
        tagSize = 0;
        tagName(model.kindName[model.ruleKind[r]]);
        tagByte(' ');
        tagByte('i');
        tagByte('s');
        for (int t = 0; t <= model.ruleSize[r]; t++) {
            if (t == model.itemDot[i]) {
                tagByte(' ');
                tagByte('.');
            }
            if (t < model.ruleSize[r]) {
                tagByte(' ');
                tagName(model.nameOf(model.symbolAt(r, t)));
            }
        }
        return tagSize;
    }

    public int byteAt(int i) {
        return i >= 0 && i < tagSize ? tagBytes[i] : NONE;
    }

    public int drawn(int n, int seed) {
        if (n < 1 || n > 40) {
            return NONE;
        }
        scratch.copyFrom(model);
        int done = draws.deeds(model, n, seed);
        if (done > 0) {
            settled(0);
        }
        return done;
    }

    public int odds(int n, int seed) {
        if (n < 1 || n > 6) {
            return NONE;
        }
        int sure = 0;
        for (int t = 0; t < n; t++) {
            scratch.copyFrom(model);
            draws.deeds(scratch, 3, seed + t);
            places.build(scratch);
            if (!places.tooMany) {
                pairs.follow();
                sure += pairs.meets ? 0 : 1;
            }
        }
        // what was found holds for the drawn ones, not for those that are so
        places.fresh = false;
        pairs.fresh = false;
        return sure;
    }

    public int book(int lives) {
        if (lives != 0 && lives != 1) {
            return -1000;
        }
        boolean good = parser.readBook(model, lines);
        tape.size = 0;
        if (!good) {
            return -2 - parser.faultPlace;
        }
        scratch.copyFrom(model);
        lines.judge(scratch);
        if (lives == 1 && lines.ahead > 0) {
            remember(model);
            model.copyFrom(scratch);
            changed();
        }
        return lines.why == 0 ? NONE : lines.ahead;
    }

    public int told(int what) {
        if (!lines.judged) {
            return NONE;
        }
        switch (what) {
            case 0:
                return lines.why;
            case 1:
                return lines.ahead;
            case 2:
                return lines.rulesThen;
            case 3:
                return lines.groupsThen;
            default:
                return NONE;
        }
    }

    public int sentence() {
        boolean good = parser.readSentence(model);
        tape.size = 0;
        if (!good) {
            return -1 - parser.faultPlace;
        }
        condition.copyFrom(parser.draft);
        return condition.ones;
    }

    public int said(int k) {
        if (condition.ones == 0 || k < NONE) {
            return NONE;
        }
        int count = 0;
        for (int i = 2; i < model.items; i++) {
            if (condition.holdsOf(model, i)) {
                if (count == k) {
                    return i;
                }
                count++;
            }
        }
        return k == NONE ? count : NONE;
    }

    public boolean image(int k) {
        if (k < 0 || k >= keptModel.length) {
            return false;
        }
        keptModel[k].copyFrom(model);
        keptCondition[k].copyFrom(condition);
        keptMask |= 1 << k;
        return true;
    }

    public boolean restore(int k) {
        if (k < 0 || k >= keptModel.length || (keptMask >> k & 1) == 0) {
            return false;
        }
        model.copyFrom(keptModel[k]);
        condition.copyFrom(keptCondition[k]);
        pastCount = 0;
        changed();
        return true;
    }

    public int count(int what) {
        switch (what) {
            case 0:
                return model.signs;
            case 1:
                return model.kinds;
            case 2:
                return model.rules;
            case 3:
                return model.items;
            case 4:
                return model.groups();
            case 5:
                return placed() ? places.count : NONE;
            case 6:
                return model.callers;
            case 7:
                return tape.size;
            default:
                return NONE;
        }
    }

    private void changed() {
        facts.fresh = false;
        places.fresh = false;
        pairs.fresh = false;
        chart.fresh = false;
    }

    /** Keeps what was so ahead of a deed that was done: the scratch holds it. */
    private int settled(int answer) {
        if (answer == 0) {
            remember(scratch);
            changed();
        }
        return answer;
    }

    private void remember(Model before) {
        if (pastCount >= MOST_UNDONE) {
            Model oldest = past[0];
            for (int i = 1; i < MOST_UNDONE; i++) {
                past[i - 1] = past[i];
            }
            past[MOST_UNDONE - 1] = oldest;
            pastCount = MOST_UNDONE - 1;
        }
        past[pastCount].copyFrom(before);
        pastCount++;
    }

    private boolean placed() {
        if (!places.fresh) {
            places.build(model);
        }
        return !places.tooMany;
    }

    private boolean isPlace(int p) {
        return placed() && p >= 0 && p < places.count;
    }

    private boolean followed() {
        if (!placed()) {
            return false;
        }
        if (!pairs.fresh) {
            pairs.follow();
        }
        return true;
    }

    private void tagByte(int c) {
        if (tagSize < tagBytes.length) {
            tagBytes[tagSize] = c;
            tagSize++;
        }
    }

    private void tagName(long name) {
        for (int shift = 48; shift >= 0; shift -= 8) {
            int c = (int) (name >>> shift) & 255;
            if (c != 0) {
                tagByte(c);
            }
        }
    }

    /** The bytes fed, and the TOKENS read from them. */
    private static final class Tape {
        final int[] cell = new int[MOST_BYTES];
        int size;
        int limit;
        int at;
        int token;
        int place;
        long value;

        void put(int number) {
            for (int shift = 24; shift >= 0; shift -= 8) {
                if (size < cell.length) {
                    cell[size] = number >>> shift & 255;
                    size++;
                }
            }
        }

        int byteOr(int i, int other) {
            return i >= 0 && i < size ? cell[i] : other;
        }

        void open(int most) {
            limit = most;
            at = 0;
            advance();
        }

        /** Reads the next TOKEN; one that begins ahead of the limit is read whole, beyond it. */
        void advance() {
            int stop = Math.min(size, limit);
            while (at < stop && (cell[at] == 32 || cell[at] == 10)) {
                at++;
            }
            value = 0;
            if (at >= stop) {
                place = stop;
                token = size > limit ? TOKEN_BAD : TOKEN_END;
                return;
            }
            place = at;
            int c = cell[at];
            if (c >= 'a' && c <= 'z' || c >= '0' && c <= '9') {
                readRun(c >= 'a');
                return;
            }
            boolean mark = c >= ';' && c <= '>' || c == '(' || c == ')';
            token = mark ? TOKEN_MARK : TOKEN_BAD;
            value = c;
            at++;
        }

        boolean isMark(int c) {
            return token == TOKEN_MARK && value == c;
        }

        boolean isWord(long word) {
            return token == TOKEN_WORD && value == word;
        }

        boolean isName() {
            if (token != TOKEN_WORD) {
                return false;
            }
            for (int i = 0; i < RESERVED.length; i++) {
                if (value == RESERVED[i]) {
                    return false;
                }
            }
            return true;
        }

        private void readRun(boolean letters) {
            boolean pure = true;
            boolean goesOn = true;
            int begin = at;
            while (at < size && goesOn) {
                int c = cell[at];
                boolean letter = c >= 'a' && c <= 'z';
                goesOn = letter || c >= '0' && c <= '9';
                if (goesOn) {
                    pure = pure && letter == letters;
                    if (at - begin < 7) {
                        value = letters ? value << 8 | c : value * 10 + (c - '0');
                    }
                    at++;
                }
            }
            int length = at - begin;
            if (!pure || length > (letters ? 7 : 3)) {
                token = TOKEN_BAD;
            } else {
                token = letters ? TOKEN_WORD : TOKEN_NUMBER;
            }
        }
    }

    /** The GRAMMAR and all that is so: RULES, ITEMS, CLASSES (here: groups), the DEPTH (callers). */
    private static final class Model {
        int signs;
        int kinds;
        int rules;
        int items = 2;
        int callers;
        final long[] signName = new long[MOST_SIGNS];
        final long[] kindName = new long[MOST_KINDS];
        final int[] ruleKind = new int[MOST_RULES];
        final int[] ruleSize = new int[MOST_RULES];
        final int[] ruleFirst = new int[MOST_RULES];
        final int[] symbol = new int[MOST_RULES * MOST_SYMBOLS];
        final int[] itemRule = new int[MOST_ITEMS];
        final int[] itemDot = new int[MOST_ITEMS];
        final int[] group = new int[MOST_ITEMS];

        Model() {
            renumber();
        }

        void clear() {
            signs = 0;
            kinds = 0;
            rules = 0;
            callers = 0;
            renumber();
        }

        void copyFrom(Model other) {
            signs = other.signs;
            kinds = other.kinds;
            rules = other.rules;
            items = other.items;
            callers = other.callers;
            System.arraycopy(other.signName, 0, signName, 0, signName.length);
            System.arraycopy(other.kindName, 0, kindName, 0, kindName.length);
            System.arraycopy(other.ruleKind, 0, ruleKind, 0, ruleKind.length);
            System.arraycopy(other.ruleSize, 0, ruleSize, 0, ruleSize.length);
            System.arraycopy(other.ruleFirst, 0, ruleFirst, 0, ruleFirst.length);
            System.arraycopy(other.symbol, 0, symbol, 0, symbol.length);
            System.arraycopy(other.itemRule, 0, itemRule, 0, itemRule.length);
            System.arraycopy(other.itemDot, 0, itemDot, 0, itemDot.length);
            System.arraycopy(other.group, 0, group, 0, group.length);
        }

        /** The number of a SIGN or, from 8 on, a KIND of that NAME. */
        int find(long name) {
            for (int i = 0; i < signs; i++) {
                if (signName[i] == name) {
                    return i;
                }
            }
            for (int i = 0; i < kinds; i++) {
                if (kindName[i] == name) {
                    return FIRST_KIND + i;
                }
            }
            return NONE;
        }

        long nameOf(int code) {
            if (code >= 0 && code < signs) {
                return signName[code];
            }
            int k = code - FIRST_KIND;
            return k >= 0 && k < kinds ? kindName[k] : 0L;
        }

        void newSign(long name) {
            if (signs < MOST_SIGNS) {
                signName[signs] = name;
                signs++;
            }
        }

        void newKind(long name) {
            if (kinds < MOST_KINDS) {
                kindName[kinds] = name;
                kinds++;
            }
        }

        boolean isSymbol(int code) {
            int k = code - FIRST_KIND;
            return code >= 0 && code < signs || k >= 0 && k < kinds;
        }

        int symbolAt(int r, int t) {
            return r >= 0 && r < rules && t >= 0 && t < ruleSize[r] ? symbol[r * MOST_SYMBOLS + t] : NONE;
        }

        int rulesOf(int k) {
            int bits = 0;
            for (int r = 0; r < rules; r++) {
                if (ruleKind[r] == k) {
                    bits |= 1 << r;
                }
            }
            return bits;
        }

        int nextOf(int i) {
            if (i == START) {
                return kinds > 0 ? FIRST_KIND : NONE;
            }
            return i > END && i < items ? symbolAt(itemRule[i], itemDot[i]) : NONE;
        }

        int kindOf(int i) {
            return i > END && i < items ? ruleKind[itemRule[i]] : NONE;
        }

        int groups() {
            int found = 0;
            for (int i = 0; i < items; i++) {
                found += group[i] == i ? 1 : 0;
            }
            return found;
        }

        int groupSize(int g) {
            int found = 0;
            for (int i = 0; i < items; i++) {
                found += group[i] == g ? 1 : 0;
            }
            return found;
        }

        int unite(int i, int j) {
            if (i < 2 || j < 2 || i >= items || j >= items) {
                return NONE;
            }
            int low = Math.min(group[i], group[j]);
            int high = Math.max(group[i], group[j]);
            if (low == high) {
                return 1;
            }
            for (int x = 2; x < items; x++) {
                if (group[x] == high) {
                    group[x] = low;
                }
            }
            return 0;
        }

        int deepen(int d) {
            if (d < 0 || d > 1) {
                return NONE;
            }
            if (d == callers) {
                return 1;
            }
            callers = d;
            return 0;
        }

        int removeRule(int r) {
            if (r < 0 || r >= rules) {
                return NONE;
            }
            for (int x = r + 1; x < rules; x++) {
                ruleKind[x - 1] = ruleKind[x];
                ruleSize[x - 1] = ruleSize[x];
                for (int t = 0; t < MOST_SYMBOLS; t++) {
                    symbol[(x - 1) * MOST_SYMBOLS + t] = symbol[x * MOST_SYMBOLS + t];
                }
            }
            rules--;
            renumber();
            return 0;
        }

        int appendRule(int k, int size, int first, int second, int third) {
            if (k < 0 || k >= kinds || size < 0 || size > MOST_SYMBOLS) {
                return NONE;
            }
            if (size > 0 && !isSymbol(first) || size > 1 && !isSymbol(second) || size > 2 && !isSymbol(third)) {
                return NONE;
            }
            if (rules >= MOST_RULES) {
                return 1;
            }
            ruleKind[rules] = k;
            ruleSize[rules] = size;
            symbol[rules * MOST_SYMBOLS] = first;
            symbol[rules * MOST_SYMBOLS + 1] = second;
            symbol[rules * MOST_SYMBOLS + 2] = third;
            rules++;
            renumber();
            return 0;
        }

        private void renumber() {
            items = 2;
            itemRule[START] = NONE;
            itemDot[START] = NONE;
            itemRule[END] = NONE;
            itemDot[END] = NONE;
            for (int r = 0; r < rules; r++) {
                ruleFirst[r] = items;
                for (int dot = 0; dot <= ruleSize[r] && items < MOST_ITEMS; dot++) {
                    itemRule[items] = r;
                    itemDot[items] = dot;
                    items++;
                }
            }
            for (int i = 0; i < MOST_ITEMS; i++) {
                group[i] = i;
            }
        }
    }

    /** What may be said of an ITEM: its ONES with those that they bind behind them. */
    private static final class Sentence {
        final int[] op = new int[2 * MOST_ONES];
        final int[] arg = new int[2 * MOST_ONES];
        int size;
        int ones;

        void clear() {
            size = 0;
            ones = 0;
        }

        void copyFrom(Sentence other) {
            size = other.size;
            ones = other.ones;
            System.arraycopy(other.op, 0, op, 0, op.length);
            System.arraycopy(other.arg, 0, arg, 0, arg.length);
        }

        void emit(int what, int with) {
            if (size < op.length) {
                op[size] = what;
                arg[size] = with;
                size++;
            }
        }

        boolean holdsOf(Model m, int i) {
            int stack = 0;
            for (int t = 0; t < size; t++) {
                int top = stack & 1;
                if (op[t] == OP_NOT) {
                    stack ^= 1;
                } else if (op[t] == OP_AND) {
                    stack = stack >>> 1 & (top | ~1);
                } else if (op[t] == OP_OR) {
                    stack = stack >>> 1 | top;
                } else {
                    stack = stack << 1 | (simple(m, i, op[t], arg[t]) ? 1 : 0);
                }
            }
            return (stack & 1) == 1;
        }

        private static boolean simple(Model m, int i, int what, int with) {
            switch (what) {
                case OP_FIRST:
                    return m.itemDot[i] == 0;
                case OP_LAST:
                    return m.nextOf(i) == NONE;
                case OP_ALONE:
                    return m.groupSize(m.group[i]) == 1;
                case OP_OF:
                    return m.kindOf(i) == with;
                case OP_NEXT:
                    return m.nextOf(i) == with;
                default:
                    break;
            }
            if (what >= OP_NUMBER) {
                return compares(i, what - OP_NUMBER, with);
            }
            if (what >= OP_DOT) {
                return compares(m.itemDot[i], what - OP_DOT, with);
            }
            return compares(m.itemRule[i], what - OP_RULE, with);
        }

        private static boolean compares(int left, int sign, int right) {
            if (sign == 0) {
                return left < right;
            }
            return sign == 1 ? left == right : left > right;
        }
    }

    /** Reads the texts of the tape: a GRAMMAR, a BOOK, a SENTENCE; keeps the latest FAULT. */
    private static final class Parser {
        final Tape tape;
        final int[] row = new int[2 + MOST_SYMBOLS];
        final Sentence draft = new Sentence();
        int fault;
        int faultPlace;

        Parser(Tape tape) {
            this.tape = tape;
        }

        private boolean fail(int why) {
            fault = why;
            faultPlace = tape.place;
            return false;
        }

        private void begin(int most) {
            fault = 0;
            faultPlace = 0;
            tape.open(most);
        }

        int readGrammar(Model m) {
            begin(900);
            for (int told = 0; told <= MOST_BYTES; told++) {
                if (tape.token == TOKEN_END) {
                    return told;
                }
                if (!grammarLine(m)) {
                    return NONE;
                }
            }
            return NONE;
        }

        private boolean grammarLine(Model m) {
            if (tape.isWord(WORD_SIGN)) {
                return m.signs >= MOST_SIGNS ? fail(ONE_MORE) : nameLine(m, true);
            }
            if (tape.isWord(WORD_KIND)) {
                return m.kinds >= MOST_KINDS ? fail(ONE_MORE) : nameLine(m, false);
            }
            if (!tape.isWord(WORD_RULE)) {
                return fail(CANNOT_COME);
            }
            if (m.rules >= MOST_RULES) {
                return fail(ONE_MORE);
            }
            return ruleLine(m) && m.appendRule(row[0], row[1], row[2], row[3], row[4]) == 0;
        }

        private boolean nameLine(Model m, boolean sign) {
            tape.advance();
            if (!tape.isName()) {
                return fail(CANNOT_COME);
            }
            long name = tape.value;
            if (m.find(name) != NONE) {
                return fail(NAME_AMISS);
            }
            tape.advance();
            if (!lineEnds()) {
                return false;
            }
            if (sign) {
                m.newSign(name);
            } else {
                m.newKind(name);
            }
            return true;
        }

        private boolean lineEnds() {
            if (!tape.isMark(';')) {
                return fail(CANNOT_COME);
            }
            tape.advance();
            return true;
        }

        /** A RULE's LINE from its first WORD on, into the row: its KIND, how many SYMBOLS, these. */
        private boolean ruleLine(Model m) {
            tape.advance();
            int k = knownName(m);
            if (k == NONE) {
                return false;
            }
            if (k < FIRST_KIND) {
                return fail(NAME_AMISS);
            }
            row[0] = k - FIRST_KIND;
            row[1] = 0;
            for (int t = 0; t < MOST_SYMBOLS; t++) {
                row[2 + t] = NONE;
            }
            tape.advance();
            for (int t = 0; t <= MOST_SYMBOLS && !tape.isMark(';'); t++) {
                int code = knownName(m);
                if (code == NONE) {
                    return false;
                }
                if (t >= MOST_SYMBOLS) {
                    return fail(ONE_MORE);
                }
                row[2 + t] = code;
                row[1]++;
                tape.advance();
            }
            return lineEnds();
        }

        /** The SYMBOL that the NAME at hand tells; NONE, and a FAULT, if it is not one. */
        private int knownName(Model m) {
            if (!tape.isName()) {
                fail(CANNOT_COME);
                return NONE;
            }
            int code = m.find(tape.value);
            if (code == NONE) {
                fail(NAME_AMISS);
            }
            return code;
        }

        boolean readBook(Model m, Book b) {
            begin(400);
            b.size = 0;
            for (int n = 0; n <= MOST_LINES; n++) {
                if (tape.token == TOKEN_END) {
                    return true;
                }
                if (!bookLine(m, b, n)) {
                    return false;
                }
            }
            return false;
        }

        private boolean bookLine(Model m, Book b, int n) {
            boolean adds = tape.isWord(WORD_RULE);
            boolean merges = tape.isWord(WORD_MERGE);
            boolean drops = tape.isWord(WORD_DROP);
            if (!adds && !merges && !drops && !tape.isWord(WORD_DEPTH)) {
                return fail(CANNOT_COME);
            }
            if (n >= MOST_LINES) {
                return fail(ONE_MORE);
            }
            if (adds) {
                if (!ruleLine(m)) {
                    return false;
                }
                b.put(LINE_ADD, row);
                return true;
            }
            tape.advance();
            boolean good;
            if (merges) {
                good = number(0, 2, 41) && number(1, 2, 41);
            } else {
                good = number(0, 0, drops ? 9 : 1);
            }
            if (!good || !lineEnds()) {
                return false;
            }
            b.put(merges ? LINE_MERGE : drops ? LINE_DROP : LINE_DEPTH, row);
            return true;
        }

        private boolean number(int at, int least, int most) {
            if (tape.token != TOKEN_NUMBER) {
                return fail(CANNOT_COME);
            }
            if (tape.value < least || tape.value > most) {
                return fail(NUMBER_AMISS);
            }
            if (at >= 0 && at < row.length) {
                row[at] = (int) tape.value;
            }
            tape.advance();
            return true;
        }

        boolean readSentence(Model m) {
            begin(200);
            draft.clear();
            if (!readCond(m, 1)) {
                return false;
            }
            return tape.token == TOKEN_END || fail(CANNOT_COME);
        }

        private boolean readCond(Model m, int within) {
            boolean more = true;
            for (int all = 0; all <= MOST_ONES && more; all++) {
                if (!readOne(m, within)) {
                    return false;
                }
                for (int n = 0; n <= MOST_ONES && tape.isWord(WORD_AND); n++) {
                    tape.advance();
                    if (!readOne(m, within)) {
                        return false;
                    }
                    draft.emit(OP_AND, 0);
                }
                if (all > 0) {
                    draft.emit(OP_OR, 0);
                }
                more = tape.isWord(WORD_OR);
                if (more) {
                    tape.advance();
                }
            }
            return true;
        }

        private boolean readOne(Model m, int within) {
            if (!beginsOne()) {
                return fail(CANNOT_COME);
            }
            if (draft.ones >= MOST_ONES || within > MOST_WITHIN) {
                return fail(ONE_MORE);
            }
            draft.ones++;
            boolean bracket = tape.isMark('(');
            long word = bracket ? 0 : tape.value;
            tape.advance();
            if (bracket) {
                if (!readCond(m, within + 1)) {
                    return false;
                }
                if (!tape.isMark(')')) {
                    return fail(CANNOT_COME);
                }
                tape.advance();
                return true;
            }
            if (word == WORD_NOT) {
                if (!readOne(m, within + 1)) {
                    return false;
                }
                draft.emit(OP_NOT, 0);
                return true;
            }
            return readPlain(m, word);
        }

        private boolean beginsOne() {
            return tape.isMark('(') || tape.isWord(WORD_NOT)
                || tape.isWord(WORD_FIRST) || tape.isWord(WORD_LAST) || tape.isWord(WORD_ALONE)
                || tape.isWord(WORD_OF) || tape.isWord(WORD_NEXT)
                || tape.isWord(WORD_RULE) || tape.isWord(WORD_DOT) || tape.isWord(WORD_NUMBER);
        }

        /** What is behind the first WORD of a ONE that has no other within. */
        private boolean readPlain(Model m, long word) {
            if (word == WORD_FIRST || word == WORD_LAST || word == WORD_ALONE) {
                draft.emit(word == WORD_FIRST ? OP_FIRST : word == WORD_LAST ? OP_LAST : OP_ALONE, 0);
                return true;
            }
            if (word == WORD_OF || word == WORD_NEXT) {
                int code = knownName(m);
                if (code == NONE) {
                    return false;
                }
                if (word == WORD_OF && code < FIRST_KIND) {
                    return fail(NAME_AMISS);
                }
                draft.emit(word == WORD_OF ? OP_OF : OP_NEXT, word == WORD_OF ? code - FIRST_KIND : code);
                tape.advance();
                return true;
            }
            int sign = tape.isMark('<') ? 0 : tape.isMark('=') ? 1 : tape.isMark('>') ? 2 : NONE;
            if (sign == NONE) {
                return fail(CANNOT_COME);
            }
            tape.advance();
            if (!number(0, 0, 999)) {
                return false;
            }
            int op = word == WORD_RULE ? OP_RULE : word == WORD_DOT ? OP_DOT : OP_NUMBER;
            draft.emit(op + sign, row[0]);
            return true;
        }
    }

    /** The LINES of the latest BOOK, and what was told of the latest one that was judged. */
    private static final class Book {
        final int[] op = new int[MOST_LINES];
        final int[] row = new int[MOST_LINES * (2 + MOST_SYMBOLS)];
        int size;
        boolean judged;
        int why;
        int ahead;
        int rulesThen;
        int groupsThen;

        void put(int what, int[] told) {
            if (size < op.length) {
                op[size] = what;
                for (int t = 0; t < 2 + MOST_SYMBOLS && t < told.length; t++) {
                    row[size * (2 + MOST_SYMBOLS) + t] = told[t];
                }
                size++;
            }
        }

        /** Lives the LINES on a copy, up to the one that is WRONG. */
        void judge(Model m) {
            judged = true;
            why = 0;
            ahead = 0;
            for (int n = 0; n < size && why == 0; n++) {
                int answer = live(m, n);
                if (answer == 0) {
                    ahead++;
                } else {
                    why = op[n] + (answer == 1 ? 1 : 9);
                }
            }
            rulesThen = m.rules;
            groupsThen = m.groups();
        }

        private int live(Model m, int n) {
            int at = n * (2 + MOST_SYMBOLS);
            if (op[n] == LINE_ADD) {
                return m.appendRule(row[at], row[at + 1], row[at + 2], row[at + 3], row[at + 4]);
            }
            if (op[n] == LINE_MERGE) {
                return m.unite(row[at], row[at + 1]);
            }
            return op[n] == LINE_DROP ? m.removeRule(row[at]) : m.deepen(row[at]);
        }
    }

    /** DEEDS DRAWN by a seed. */
    private static final class Draws {
        int x;

        int deeds(Model m, int n, int seed) {
            x = seed;
            int done = 0;
            for (int t = 0; t < n; t++) {
                done += deed(m) == 0 ? 1 : 0;
            }
            return done;
        }

        private int draw(int n) {
            x = x * 1103515245 + 12345;
            return n > 0 ? (x >>> 8) % n : 0;
        }

        private int deed(Model m) {
            int what = draw(6);
            if (what <= 2) {
                if (m.items <= 2) {
                    return NONE;
                }
                int i = 2 + draw(m.items - 2);
                int j = 2 + draw(m.items - 2);
                return m.unite(i, j);
            }
            if (what == 3) {
                return m.deepen(draw(2));
            }
            if (what == 4) {
                return m.rules > 0 ? m.removeRule(draw(m.rules)) : NONE;
            }
            return m.kinds > 0 ? addition(m) : NONE;
        }

        private int addition(Model m) {
            int k = draw(m.kinds);
            int size = draw(4);
            int first = size > 0 ? symbol(m) : NONE;
            int second = size > 1 ? symbol(m) : NONE;
            int third = size > 2 ? symbol(m) : NONE;
            return m.appendRule(k, size, first, second, third);
        }

        private int symbol(Model m) {
            int s = draw(m.kinds + m.signs);
            return s < m.kinds ? FIRST_KIND + s : s - m.kinds;
        }
    }

    /** What can be said of KINDS by RULES alone, KINDS as bits. */
    private static final class Kinds {
        // more rounds than there are bits that a round could set
        private static final int ROUNDS = 64;
        boolean fresh;
        int empty;
        int endless;
        int used;
        final int[] begins = new int[MOST_KINDS];
        final int[] follows = new int[MOST_KINDS];
        final int[] itself = new int[MOST_KINDS];

        void learn(Model m) {
            for (int k = 0; k < MOST_KINDS; k++) {
                begins[k] = 0;
                follows[k] = 0;
                itself[k] = 0;
            }
            empty = closure(m, false);
            learnBegins(m);
            learnFollows(m, made(m, (1 << MOST_KINDS) - 1));
            learnEndless(m);
            int ended = closure(m, true);
            used = (ended & 1) == 0 ? 0 : made(m, ended);
            fresh = true;
        }

        /** KINDS that can be made of KINDS alike (and SIGNS): those that can be EMPTY, or a row. */
        private int closure(Model m, boolean signsToo) {
            int known = 0;
            for (int round = 0; round < ROUNDS; round++) {
                int before = known;
                for (int r = 0; r < m.rules; r++) {
                    if (within(m, r, known, signsToo)) {
                        known |= 1 << m.ruleKind[r];
                    }
                }
                if (known == before) {
                    break;
                }
            }
            return known;
        }

        private static boolean within(Model m, int r, int known, boolean signsToo) {
            boolean all = true;
            for (int t = 0; t < m.ruleSize[r]; t++) {
                int k = m.symbolAt(r, t) - FIRST_KIND;
                all = all && (k < 0 ? signsToo : (known >> k & 1) == 1);
            }
            return all;
        }

        /** KINDS to which one comes from KIND 0 by RULES whose KINDS are all among the ones let. */
        private static int made(Model m, int let) {
            int known = m.kinds > 0 ? 1 : 0;
            for (int round = 0; round < ROUNDS; round++) {
                int before = known;
                for (int r = 0; r < m.rules; r++) {
                    if ((known >> m.ruleKind[r] & 1) == 1 && within(m, r, let, true)) {
                        known |= kindsIn(m, r);
                    }
                }
                if (known == before) {
                    break;
                }
            }
            return known;
        }

        private static int kindsIn(Model m, int r) {
            int bits = 0;
            for (int t = 0; t < m.ruleSize[r]; t++) {
                int k = m.symbolAt(r, t) - FIRST_KIND;
                bits |= k < 0 ? 0 : 1 << k;
            }
            return bits;
        }

        private boolean isEmpty(int code) {
            return code >= FIRST_KIND && (empty >> (code - FIRST_KIND) & 1) == 1;
        }

        /** SIGNS with which what a RULE has from a SYMBOL on can begin. */
        private int beginsFrom(Model m, int r, int from) {
            int bits = 0;
            for (int t = from; t < m.ruleSize[r]; t++) {
                int code = m.symbolAt(r, t);
                bits |= code < FIRST_KIND ? 1 << code : begins[code - FIRST_KIND];
                if (!isEmpty(code)) {
                    break;
                }
            }
            return bits;
        }

        private boolean emptyFrom(Model m, int r, int from) {
            boolean all = true;
            for (int t = from; t < m.ruleSize[r]; t++) {
                all = all && isEmpty(m.symbolAt(r, t));
            }
            return all;
        }

        private void learnBegins(Model m) {
            for (int round = 0; round < ROUNDS; round++) {
                boolean more = false;
                for (int r = 0; r < m.rules; r++) {
                    int k = m.ruleKind[r];
                    int bits = begins[k] | beginsFrom(m, r, 0);
                    more = more || bits != begins[k];
                    begins[k] = bits;
                }
                if (!more) {
                    break;
                }
            }
        }

        private void learnFollows(Model m, int madeKinds) {
            for (int round = 0; round < ROUNDS; round++) {
                boolean more = false;
                for (int r = 0; r < m.rules; r++) {
                    int from = m.ruleKind[r];
                    for (int t = 0; t < m.ruleSize[r] && (madeKinds >> from & 1) == 1; t++) {
                        int k = m.symbolAt(r, t) - FIRST_KIND;
                        if (k >= 0) {
                            int bits = follows[k] | beginsFrom(m, r, t + 1);
                            bits |= emptyFrom(m, r, t + 1) ? follows[from] : 0;
                            more = more || bits != follows[k];
                            follows[k] = bits;
                        }
                    }
                }
                if (!more) {
                    break;
                }
            }
        }

        private void learnEndless(Model m) {
            for (int r = 0; r < m.rules; r++) {
                for (int t = 0; t < m.ruleSize[r]; t++) {
                    int k = m.symbolAt(r, t) - FIRST_KIND;
                    if (k >= 0 && emptyBut(m, r, t)) {
                        itself[m.ruleKind[r]] |= 1 << k;
                    }
                }
            }
            for (int via = 0; via < m.kinds; via++) {
                for (int k = 0; k < m.kinds; k++) {
                    itself[k] |= (itself[k] >> via & 1) == 1 ? itself[via] : 0;
                }
            }
            endless = 0;
            for (int k = 0; k < m.kinds; k++) {
                endless |= itself[k] & 1 << k;
            }
        }

        private boolean emptyBut(Model m, int r, int one) {
            boolean all = true;
            for (int t = 0; t < m.ruleSize[r]; t++) {
                all = all && (t == one || isEmpty(m.symbolAt(r, t)));
            }
            return all;
        }
    }

    /** PLACES and their STEPS; a set of PLACES is two longs, the lower 64 first. */
    private static final class Places {
        boolean fresh;
        boolean tooMany;
        int count;
        final int[] placeGroup = new int[MOST_PLACES];
        final int[] placeCaller = new int[MOST_PLACES];
        // by SORT of STEP: to which PLACES
        final long[] to = new long[MOST_PLACES * SORTS * 2];
        // by SIGN, and last all that are no SIGN: from which PLACES
        final long[] from = new long[MOST_PLACES * 5 * 2];
        // to which PLACES by one SORT that is no SIGN at least, by two
        final long[] once = new long[MOST_PLACES * 2];
        final long[] twice = new long[MOST_PLACES * 2];
        final boolean[] hasSign = new boolean[MOST_PLACES];
        private final int[] index = new int[MOST_ITEMS * MOST_ITEMS];
        private final int[] next = new int[MOST_ITEMS];
        private final int[] kindOf = new int[MOST_ITEMS];
        // of a CLASS, as bits: KINDS of its ITEMS, KINDS that are NEXT
        private final int[] ofKinds = new int[MOST_ITEMS];
        private final int[] callsKinds = new int[MOST_ITEMS];

        void build(Model m) {
            fresh = true;
            learnItems(m);
            listPlaces(m);
            if (tooMany) {
                return;
            }
            clearSteps();
            openFrom(m, START, START);
            for (int p = 2; p < count; p++) {
                stepsOf(m, p);
            }
            gather();
        }

        private void learnItems(Model m) {
            for (int i = 0; i < MOST_ITEMS; i++) {
                ofKinds[i] = 0;
                callsKinds[i] = 0;
            }
            for (int i = 0; i < m.items; i++) {
                int g = m.group[i];
                next[i] = m.nextOf(i);
                kindOf[i] = m.kindOf(i);
                ofKinds[g] |= kindOf[i] >= 0 ? 1 << kindOf[i] : 0;
                callsKinds[g] |= next[i] >= FIRST_KIND ? 1 << (next[i] - FIRST_KIND) : 0;
            }
        }

        private void listPlaces(Model m) {
            count = 0;
            tooMany = false;
            listPlace(START, NONE);
            listPlace(END, NONE);
            for (int g = 2; g < m.items; g++) {
                if (m.group[g] == g && m.callers == 0) {
                    listPlace(g, NONE);
                }
                for (int c = 0; c < m.items && m.callers == 1; c++) {
                    if (m.group[g] == g && (ofKinds[g] & callsKinds[c]) != 0) {
                        listPlace(g, c);
                    }
                }
            }
        }

        private void listPlace(int g, int caller) {
            if (count >= MOST_PLACES) {
                tooMany = true;
                return;
            }
            placeGroup[count] = g;
            placeCaller[count] = caller;
            index[g * MOST_ITEMS + Math.max(caller, 0)] = count;
            count++;
        }

        private void clearSteps() {
            for (int i = 0; i < count * SORTS * 2; i++) {
                to[i] = 0;
            }
            for (int i = 0; i < count * 5 * 2; i++) {
                from[i] = 0;
            }
        }

        /** The PLACE of an ITEM's CLASS, with the CLASS of its CALLER if the DEPTH is 1. */
        private int placeOf(Model m, int item, int caller) {
            int g = item >= 0 && item < m.items ? m.group[item] : START;
            return index[g * MOST_ITEMS + (m.callers == 1 && caller >= 0 ? caller : 0)];
        }

        private void addStep(int p, int sort, int q) {
            to[(p * SORTS + sort) * 2 + (q >> 6)] |= 1L << (q & 63);
            from[(q * 5 + (sort < OPENS ? sort : OPENS)) * 2 + (p >> 6)] |= 1L << (p & 63);
        }

        private void openFrom(Model m, int p, int item) {
            for (int r = 0; r < m.rules; r++) {
                if (next[item] == FIRST_KIND + m.ruleKind[r]) {
                    addStep(p, OPENS + r, placeOf(m, m.ruleFirst[r], m.group[item]));
                }
            }
        }

        private void stepsOf(Model m, int p) {
            int caller = placeCaller[p];
            for (int i = 2; i < m.items; i++) {
                boolean here = m.group[i] == placeGroup[p];
                if (here && (caller == NONE || (callsKinds[caller] >> kindOf[i] & 1) == 1)) {
                    if (next[i] == NONE) {
                        closeFrom(m, p, i);
                    } else if (next[i] < FIRST_KIND) {
                        addStep(p, next[i], placeOf(m, i + 1, caller));
                    } else {
                        openFrom(m, p, i);
                    }
                }
            }
        }

        private void closeFrom(Model m, int p, int item) {
            int caller = placeCaller[p];
            int sort = CLOSES + m.itemRule[item];
            for (int j = 0; j < m.items; j++) {
                boolean calls = next[j] == FIRST_KIND + kindOf[item];
                if (calls && (caller == NONE || m.group[j] == caller)) {
                    if (j == START) {
                        addStep(p, sort, END);
                    } else if (caller == NONE) {
                        addStep(p, sort, placeOf(m, j + 1, NONE));
                    } else {
                        closeTo(m, p, sort, j);
                    }
                }
            }
        }

        /** Behind a CALLER, of the CLASS of each from which it can itself be. */
        private void closeTo(Model m, int p, int sort, int j) {
            for (int c = 0; c < m.items; c++) {
                if ((callsKinds[c] >> kindOf[j] & 1) == 1) {
                    addStep(p, sort, placeOf(m, j + 1, c));
                }
            }
        }

        private void gather() {
            for (int p = 0; p < count; p++) {
                hasSign[p] = false;
                for (int sort = 0; sort < OPENS; sort++) {
                    hasSign[p] = hasSign[p] || hasSort(p, sort);
                }
                for (int half = 0; half < 2; half++) {
                    long one = 0;
                    long two = 0;
                    for (int sort = OPENS; sort < SORTS; sort++) {
                        long set = to[(p * SORTS + sort) * 2 + half];
                        two |= one & set;
                        one |= set;
                    }
                    once[p * 2 + half] = one;
                    twice[p * 2 + half] = two;
                }
            }
        }

        boolean hasSort(int p, int sort) {
            int at = (p * SORTS + sort) * 2;
            return (to[at] | to[at + 1]) != 0;
        }

        int stepCount(int p) {
            int found = 0;
            for (int at = p * SORTS * 2; at < (p + 1) * SORTS * 2; at++) {
                found += Long.bitCount(to[at]);
            }
            return found;
        }

        int comersTo(int p) {
            long low = 0;
            long high = 0;
            for (int at = p * 10; at < p * 10 + 10; at += 2) {
                low |= from[at];
                high |= from[at + 1];
            }
            return Long.bitCount(low) + Long.bitCount(high);
        }

        int stepAt(int p, int k, int what) {
            int left = k;
            for (int at = 0; at < SORTS * 2; at++) {
                long set = to[p * SORTS * 2 + at];
                int here = Long.bitCount(set);
                if (left < here) {
                    return what == 0 ? sortCode(at >> 1) : (at & 1) * 64 + nthBit(set, left);
                }
                left -= here;
            }
            return NONE;
        }

        private static int sortCode(int sort) {
            if (sort < OPENS) {
                return sort;
            }
            return sort < CLOSES ? 16 + sort - OPENS : 32 + sort - CLOSES;
        }

        private static int nthBit(long set, int n) {
            long rest = set;
            for (int t = 0; t < n && t < 64; t++) {
                rest &= rest - 1;
            }
            return Long.bitCount((rest & -rest) - 1);
        }
    }

    /** TWINS: by STAGE and first PLACE a row, a set of second PLACES (two longs). */
    private static final class Twins {
        private static final int ROWS = 4 * MOST_PLACES;
        private static final int MEETING = (MOST_PLACES + END) * MOST_PLACES + END;
        boolean fresh;
        boolean searched;
        boolean meets;
        int fewest;
        final long[] reached = new long[ROWS * 2];
        final long[] suspected = new long[ROWS * 2];
        // those to which one SIGN more leads
        private final long[] beyond = new long[ROWS * 2];
        // each TWINS comes into it once
        private final int[] queue = new int[ROWS * MOST_PLACES];
        private int head;
        private int tail;
        private final Places places;

        Twins(Places places) {
            this.places = places;
        }

        /** Goes through all TWINS, those of fewer SIGNS first. */
        void follow() {
            fresh = true;
            searched = false;
            meets = false;
            fewest = NONE;
            head = 0;
            tail = 0;
            for (int i = 0; i < ROWS * 2; i++) {
                reached[i] = 0;
                beyond[i] = 0;
            }
            beyond[START] = 1L << START;
            for (int signs = 0; signs <= ROWS * MOST_PLACES && raise(); signs++) {
                while (head < tail && head < queue.length) {
                    int node = queue[head];
                    head++;
                    if (node == MEETING) {
                        meets = true;
                        fewest = signs;
                    }
                    go(node / (MOST_PLACES * MOST_PLACES), node / MOST_PLACES % MOST_PLACES, node % MOST_PLACES);
                }
            }
        }

        /** Lets those beyond one SIGN more be reached; false if none is new. */
        private boolean raise() {
            int before = tail;
            for (int at = 0; at < ROWS * 2; at++) {
                if (beyond[at] != 0) {
                    enter(reached, at, beyond[at]);
                    beyond[at] = 0;
                }
            }
            return tail > before;
        }

        /** Puts those that are not yet in half a row of the set into it and into the queue. */
        private void enter(long[] set, int at, long bits) {
            long rest = bits & ~set[at];
            set[at] |= rest;
            int base = (at >> 1) * MOST_PLACES + (at & 1) * 64;
            for (int t = 0; t < 64 && rest != 0 && tail < queue.length; t++) {
                queue[tail] = base + Long.bitCount((rest & -rest) - 1);
                tail++;
                rest &= rest - 1;
            }
        }

        private void go(int stage, int p, int q) {
            goBySigns(stage == 0 ? 0 : 1, p, q);
            if (stage == 0) {
                goTogether(p, q);
                if (q == END || places.hasSign[q]) {
                    goLeft(q == END ? 1 : 2, p, q);
                }
                if (p == END || places.hasSign[p]) {
                    goRight(p == END ? 1 : 3, p, q);
                }
            } else {
                if (stage != 3) {
                    goLeft(stage, p, q);
                }
                if (stage != 2) {
                    goRight(stage, p, q);
                }
            }
        }

        private void goBySigns(int stage, int p, int q) {
            if (!places.hasSign[p] || !places.hasSign[q]) {
                return;
            }
            for (int sign = 0; sign < OPENS; sign++) {
                int left = (p * SORTS + sign) * 2;
                int right = (q * SORTS + sign) * 2;
                long low = places.to[right];
                long high = places.to[right + 1];
                if ((low | high) != 0) {
                    leaveBeyond(stage, places.to[left], 0, low, high);
                    leaveBeyond(stage, places.to[left + 1], 64, low, high);
                }
            }
        }

        private void leaveBeyond(int stage, long firsts, int base, long low, long high) {
            long rest = firsts;
            for (int t = 0; t < 64 && rest != 0; t++) {
                int row = stage * MOST_PLACES + base + Long.bitCount((rest & -rest) - 1);
                beyond[row * 2] |= low;
                beyond[row * 2 + 1] |= high;
                rest &= rest - 1;
            }
        }

        /** Both by STEPS that are no SIGNS: like ones keep STAGE 0, unlike ones lead to 1. */
        private void goTogether(int p, int q) {
            long onceLow = places.once[q * 2];
            long onceHigh = places.once[q * 2 + 1];
            if ((onceLow | onceHigh) == 0) {
                return;
            }
            for (int sort = OPENS; sort < SORTS; sort++) {
                int left = (p * SORTS + sort) * 2;
                int right = (q * SORTS + sort) * 2;
                long low = places.to[right];
                long high = places.to[right + 1];
                // a PLACE to which another SORT leads, too, stays among the unlike
                long unlikeLow = places.twice[q * 2] | onceLow & ~low;
                long unlikeHigh = places.twice[q * 2 + 1] | onceHigh & ~high;
                enterAll(0, places.to[left], 0, low, high);
                enterAll(0, places.to[left + 1], 64, low, high);
                enterAll(1, places.to[left], 0, unlikeLow, unlikeHigh);
                enterAll(1, places.to[left + 1], 64, unlikeLow, unlikeHigh);
            }
        }

        private void enterAll(int stage, long firsts, int base, long low, long high) {
            long rest = firsts;
            for (int t = 0; t < 64 && rest != 0; t++) {
                int at = (stage * MOST_PLACES + base + Long.bitCount((rest & -rest) - 1)) * 2;
                enter(reached, at, low);
                enter(reached, at + 1, high);
                rest &= rest - 1;
            }
        }

        private void goLeft(int stage, int p, int q) {
            long low = q < 64 ? 1L << q : 0;
            long high = q < 64 ? 0 : 1L << (q - 64);
            enterAll(stage, places.once[p * 2], 0, low, high);
            enterAll(stage, places.once[p * 2 + 1], 64, low, high);
        }

        private void goRight(int stage, int p, int q) {
            int at = (stage * MOST_PLACES + p) * 2;
            enter(reached, at, places.once[q * 2]);
            enter(reached, at + 1, places.once[q * 2 + 1]);
        }

        /** Goes back from the MEETING, through what is REACHED of STAGES 1 to 3. */
        void findSuspects() {
            if (searched) {
                return;
            }
            searched = true;
            for (int i = 0; i < ROWS * 2; i++) {
                suspected[i] = 0;
            }
            head = 0;
            tail = 0;
            if (meets) {
                enter(suspected, (MOST_PLACES + END) * 2, 1L << END);
            }
            while (head < tail && head < queue.length) {
                int node = queue[head];
                head++;
                back(node / (MOST_PLACES * MOST_PLACES), node / MOST_PLACES % MOST_PLACES, node % MOST_PLACES);
            }
        }

        private void back(int stage, int p, int q) {
            int left = (p * 5 + OPENS) * 2;
            int right = (q * 5 + OPENS) * 2;
            if (stage != 3) {
                long low = q < 64 ? 1L << q : 0;
                long high = q < 64 ? 0 : 1L << (q - 64);
                suspectAll(stage, places.from[left], 0, low, high);
                suspectAll(stage, places.from[left + 1], 64, low, high);
            }
            if (stage != 2) {
                suspectRow(stage * MOST_PLACES + p, places.from[right], places.from[right + 1]);
            }
            for (int sign = 0; sign < OPENS && stage == 1; sign++) {
                long low = places.from[(q * 5 + sign) * 2];
                long high = places.from[(q * 5 + sign) * 2 + 1];
                for (int before = 1; before <= 3 && (low | high) != 0; before++) {
                    suspectAll(before, places.from[(p * 5 + sign) * 2], 0, low, high);
                    suspectAll(before, places.from[(p * 5 + sign) * 2 + 1], 64, low, high);
                }
            }
        }

        private void suspectAll(int stage, long firsts, int base, long low, long high) {
            long rest = firsts;
            for (int t = 0; t < 64 && rest != 0; t++) {
                suspectRow(stage * MOST_PLACES + base + Long.bitCount((rest & -rest) - 1), low, high);
                rest &= rest - 1;
            }
        }

        private void suspectRow(int row, long low, long high) {
            enter(suspected, row * 2, low & reached[row * 2]);
            enter(suspected, row * 2 + 1, high & reached[row * 2 + 1]);
        }

        int countIn(long[] set, int stage) {
            int found = 0;
            for (int at = stage * MOST_PLACES * 2; at < (stage + 1) * MOST_PLACES * 2; at++) {
                found += Long.bitCount(set[at]);
            }
            return found;
        }

        boolean holds(long[] set, int p, int q, int stage) {
            return (set[(stage * MOST_PLACES + p) * 2 + (q >> 6)] >>> (q & 63) & 1) == 1;
        }

        int suspectPart(int k, int what) {
            int left = k;
            for (int p = 0; p < places.count; p++) {
                int here = 0;
                for (int stage = 1; stage <= 3; stage++) {
                    int at = (stage * MOST_PLACES + p) * 2;
                    here += Long.bitCount(suspected[at]) + Long.bitCount(suspected[at + 1]);
                }
                if (left < here) {
                    return suspectIn(p, left, what);
                }
                left -= here;
            }
            return NONE;
        }

        private int suspectIn(int p, int k, int what) {
            int left = k;
            for (int q = 0; q < places.count; q++) {
                for (int stage = 1; stage <= 3; stage++) {
                    if (holds(suspected, p, q, stage)) {
                        if (left == 0) {
                            return what == 0 ? p : what == 1 ? q : stage;
                        }
                        left--;
                    }
                }
            }
            return NONE;
        }
    }

    /**
     * How many TREES the parts of a row have. "Above" is what stands above a KIND with one and the same part:
     * a digit of 3 for each KIND. What goes down from one KIND to another while the part stays is the same for
     * all rows and parts; so it is counted once (the chains), and each part counts only what breaks it.
     */
    private static final class Chart {
        private static final int WIDE = MOST_ROW + 1;
        boolean fresh;
        // whether the parts are those of the row that trees() asked for
        boolean filled;
        int askedSize = NONE;
        final int[] asked = new int[MOST_ROW];
        int witnessSize = NONE;
        final int[] witnessRow = new int[MOST_WITNESS];
        int full;
        Model model;
        private final int[] row = new int[MOST_ROW];
        private final int[] emptyWays = new int[243 * MOST_KINDS];
        private final int[] link = new int[MOST_KINDS * MOST_KINDS];
        private final int[] chain = new int[243 * MOST_KINDS * MOST_KINDS];
        private final int[] broken = new int[WIDE * WIDE * MOST_KINDS];
        private final int[] whole = new int[WIDE * WIDE * MOST_KINDS];

        void ask(Tape tape) {
            askedSize = Math.min(tape.size, MOST_ROW);
            for (int i = 0; i < askedSize; i++) {
                asked[i] = tape.byteOr(i, 0);
            }
            filled = false;
        }

        int answer(Model m) {
            if (askedSize < 0 || m.kinds <= 0) {
                return 0;
            }
            learn(m);
            if (!filled) {
                filled = true;
                for (int e = 1; e <= askedSize; e++) {
                    row[e - 1] = asked[e - 1];
                    column(e);
                }
            }
            return waysOf(FIRST_KIND, 0, askedSize);
        }

        private void learn(Model m) {
            if (fresh) {
                return;
            }
            fresh = true;
            filled = false;
            model = m;
            full = POWER[Math.min(m.kinds, MOST_KINDS)] - 1;
            for (int above = full; above >= 0; above--) {
                for (int k = 0; k < m.kinds; k++) {
                    boolean more = above / POWER[k] % 3 < 2;
                    emptyWays[above * MOST_KINDS + k] = more ? kindWays(k, 0, 0, above + POWER[k]) : 0;
                }
            }
            learnLinks(m);
            for (int above = full; above >= 0; above--) {
                for (int k = 0; k < m.kinds; k++) {
                    learnChain(m, above, k);
                }
            }
        }

        /** How a KIND can be another one, all else of a RULE being empty. */
        private void learnLinks(Model m) {
            for (int i = 0; i < link.length; i++) {
                link[i] = 0;
            }
            for (int r = 0; r < m.rules; r++) {
                for (int t = 0; t < m.ruleSize[r]; t++) {
                    int k = m.symbolAt(r, t) - FIRST_KIND;
                    if (k >= 0) {
                        int at = m.ruleKind[r] * MOST_KINDS + k;
                        link[at] = capped(link[at] + emptyBut(m, r, t));
                    }
                }
            }
        }

        private int emptyBut(Model m, int r, int one) {
            int ways = 1;
            for (int t = 0; t < m.ruleSize[r]; t++) {
                if (t != one) {
                    int k = m.symbolAt(r, t) - FIRST_KIND;
                    ways = k < 0 ? 0 : capped(ways * emptyWays[k]);
                }
            }
            return ways;
        }

        private void learnChain(Model m, int above, int k) {
            int at = (above * MOST_KINDS + k) * MOST_KINDS;
            boolean more = above / POWER[k] % 3 < 2;
            for (int last = 0; last < m.kinds; last++) {
                int ways = more && last == k ? 1 : 0;
                for (int via = 0; via < m.kinds && more; via++) {
                    int beyond = ((above + POWER[k]) * MOST_KINDS + via) * MOST_KINDS + last;
                    ways = capped(ways + link[k * MOST_KINDS + via] * chain[beyond]);
                }
                chain[at + last] = ways;
            }
        }

        private static int capped(int ways) {
            return Math.min(ways, MOST_TOLD);
        }

        /** Counts all parts that end at e; those that end ahead of it must stand. */
        private void column(int e) {
            for (int i = e - 1; i >= 0; i--) {
                int at = (i * WIDE + e) * MOST_KINDS;
                for (int k = 0; k < model.kinds; k++) {
                    broken[at + k] = kindWays(k, i, e, full);
                }
                for (int k = 0; k < model.kinds; k++) {
                    whole[at + k] = chained(k, i, e, 0);
                }
            }
        }

        private int kindWays(int k, int i, int j, int above) {
            int ways = 0;
            for (int r = 0; r < model.rules; r++) {
                if (model.ruleKind[r] == k) {
                    ways = capped(ways + ruleWays(r, i, j, above));
                }
            }
            return ways;
        }

        private int ruleWays(int r, int i, int j, int above) {
            int first = model.symbolAt(r, 0);
            int second = model.symbolAt(r, 1);
            int third = model.symbolAt(r, 2);
            int ways = 0;
            for (int one = second == NONE ? j : i; one <= j; one++) {
                int ahead = part(first, i, one, one == j, above);
                for (int two = third == NONE ? j : one; two <= j && ahead != 0; two++) {
                    int middle = part(second, one, two, one == i && two == j, above);
                    if (middle != 0) {
                        ways = capped(ways + capped(ahead * middle) * part(third, two, j, two == i, above));
                    }
                }
            }
            return ways;
        }

        /** TREES of a SYMBOL in a part, which may be the same one as what is above has. */
        int part(int code, int i, int j, boolean same, int above) {
            if (code == NONE) {
                return i == j ? 1 : 0;
            }
            if (code >= FIRST_KIND && same) {
                int k = code - FIRST_KIND;
                return i == j ? emptyWays[above * MOST_KINDS + k] : chained(k, i, j, above);
            }
            return waysOf(code, i, j);
        }

        /** TREES of a SYMBOL in a part that nothing above has. */
        private int waysOf(int code, int i, int j) {
            if (code < FIRST_KIND) {
                return j == i + 1 && i < MOST_ROW && row[i] == code ? 1 : 0;
            }
            int k = code - FIRST_KIND;
            return i == j ? emptyWays[k] : whole[(i * WIDE + j) * MOST_KINDS + k];
        }

        private int chained(int k, int i, int j, int above) {
            if (above >= full) {
                return 0;
            }
            int ways = 0;
            int from = (above * MOST_KINDS + k) * MOST_KINDS;
            int at = (i * WIDE + j) * MOST_KINDS;
            for (int last = 0; last < model.kinds; last++) {
                ways = Math.min(ways + chain[from + last] * broken[at + last], MOST_TOLD);
            }
            return ways;
        }

        /** Goes through the rows in order; a column stands while the SIGNS ahead of it do. */
        int findWitness(Model m, int n) {
            learn(m);
            filled = false;
            int longest = m.signs > 0 ? Math.min(n, MOST_WITNESS) : 0;
            for (int size = 0; size <= longest; size++) {
                for (int i = 0; i < size; i++) {
                    row[i] = 0;
                }
                int stands = 0;
                for (int tried = 0; tried < 1024 && stands != NONE; tried++) {
                    for (int e = stands + 1; e <= size; e++) {
                        column(e);
                    }
                    if (waysOf(FIRST_KIND, 0, size) >= 2) {
                        return keepWitness(size);
                    }
                    stands = nextRow(size);
                }
            }
            return NONE;
        }

        private int keepWitness(int size) {
            witnessSize = size;
            for (int i = 0; i < size; i++) {
                witnessRow[i] = row[i];
            }
            return size;
        }

        /** Makes the row the next one of its size: how many SIGNS stay; NONE: it was the last one. */
        private int nextRow(int size) {
            int at = size - 1;
            while (at >= 0 && row[at] >= model.signs - 1) {
                row[at] = 0;
                at--;
            }
            if (at < 0) {
                return NONE;
            }
            row[at]++;
            return at;
        }
    }

    /** The k-th TREE, by RULES from above: how many TREES each way has tells which way it goes. */
    private static final class Picker {
        final int[] picked = new int[MOST_NODES];
        int pickedSize;
        private final Chart chart;
        private final int[] draft = new int[MOST_NODES];
        private int draftSize;
        // KINDS whose RULE is not picked yet: KIND, begin, end, above, which TREE
        private final int[] waiting = new int[MOST_NODES * 5 + 20];
        private int waitingSize;
        private int kindNow;
        private int begin;
        private int end;
        private int above;
        private int rank;

        Picker(Chart chart) {
            this.chart = chart;
        }

        int pick(int k) {
            draftSize = 0;
            waitingSize = 0;
            push(FIRST_KIND, 0, chart.askedSize, 0, k);
            for (int n = 0; n < MOST_NODES && waitingSize > 0; n++) {
                pop();
                if (!pickRule() || draftSize + waitingSize > MOST_NODES) {
                    return NONE;
                }
            }
            if (waitingSize > 0) {
                return NONE;
            }
            for (int i = 0; i < draftSize; i++) {
                picked[i] = draft[i];
            }
            pickedSize = draftSize;
            return pickedSize;
        }

        private void push(int code, int i, int j, int over, int k) {
            int at = waitingSize * 5;
            if (code >= FIRST_KIND && at + 5 <= waiting.length) {
                waiting[at] = code - FIRST_KIND;
                waiting[at + 1] = i;
                waiting[at + 2] = j;
                waiting[at + 3] = over;
                waiting[at + 4] = k;
                waitingSize++;
            }
        }

        private void pop() {
            waitingSize--;
            int at = waitingSize * 5;
            kindNow = waiting[at];
            begin = waiting[at + 1];
            end = waiting[at + 2];
            above = waiting[at + 3] + POWER[kindNow];
            rank = waiting[at + 4];
        }

        private boolean pickRule() {
            for (int r = 0; r < chart.model.rules; r++) {
                if (chart.model.ruleKind[r] == kindNow && pickParts(r)) {
                    if (draftSize < MOST_NODES) {
                        draft[draftSize] = r;
                        draftSize++;
                    }
                    return true;
                }
            }
            return false;
        }

        /** Counts the rank down by the TREES of this RULE; true if the one sought is among them. */
        private boolean pickParts(int r) {
            int first = chart.model.symbolAt(r, 0);
            int second = chart.model.symbolAt(r, 1);
            int third = chart.model.symbolAt(r, 2);
            for (int one = second == NONE ? end : begin; one <= end; one++) {
                int ahead = chart.part(first, begin, one, one == end, above);
                for (int two = third == NONE ? end : one; two <= end && ahead != 0; two++) {
                    int middle = chart.part(second, one, two, one == begin && two == end, above);
                    int behind = chart.part(third, two, end, two == begin, above);
                    int pair = Math.min(middle * behind, MOST_TOLD);
                    int ways = Math.min(ahead * pair, MOST_TOLD);
                    if (rank < ways && pair > 0 && behind > 0) {
                        push(third, two, end, overFor(two, end), rank % pair % behind);
                        push(second, one, two, overFor(one, two), rank % pair / behind);
                        push(first, begin, one, overFor(begin, one), rank / pair);
                        return true;
                    }
                    rank -= ways;
                }
            }
            return false;
        }

        private int overFor(int i, int j) {
            return i == begin && j == end ? above : 0;
        }
    }
}
