import java.util.Arrays;
import java.util.NoSuchElementException;

/** A completion laboratory: equations, rules, critical pairs, proofs and goals, told by calls over numbers. */
public final class CompletionLab {
    public static final int NONE = -1;

    private static final int LACKING = -2;
    private static final int IMPOSSIBLE = -3;

    private static final int SIGNS = 8;
    private static final int AXIOMS = 8;
    private static final int GOALS = 4;
    private static final int ARITIES = 3;
    private static final int LETTERS = 6;
    private static final int READ_CODES = 12;
    private static final int READ_VARIABLES = 6;
    private static final int TAPE = 900;

    private static final int VARIABLE = 100;
    private static final int CODES = 60;
    private static final int VARIABLES = 12;
    private static final int REDUCTIONS = 30;
    private static final int EQUATIONS = 201;
    private static final int ACTIVES = 24;
    private static final int LONGEST = 1000000000;
    private static final int STEPS_AT_ONCE = 20;
    private static final int STEPS_AHEAD = 40;

    private static final int WAITING = 0;
    private static final int RULE = 1;
    private static final int FLAT = 2;
    private static final int GONE = 3;

    private static final int BOTH_WAYS = 3;

    private static final int AXIOM = 0;
    private static final int PAIR = 1;
    private static final int TAKEN_UP = 2;
    private static final int COLLAPSED = 3;
    private static final int COMPOSED = 4;

    private static final int WHY_TAKEN_UP = 0;
    private static final int WHY_JOINED = 1;
    private static final int WHY_SUBSUMED = 2;
    private static final int WHY_COLLAPSED = 3;
    private static final int WHY_COMPOSED = 4;

    private static final int TALLY_JOINED = 11;
    private static final int TALLY_SUBSUMED = 12;
    private static final int TALLY_COLLAPSED = 13;
    private static final int TALLY_COMPOSED = 14;
    private static final int TALLY_TOO_BIG = 15;
    private static final int TALLY_CONNECTED = 16;
    private static final int TALLY_MET = 17;
    private static final int TALLY_TWICE = 18;
    private static final int TALLY_CAME = 19;

    private final Reader reader = new Reader();
    private final Language language = new Language();
    private final Language draft = new Language();
    private final Completion lab = new Completion(language);
    private final Trace toldTrace = new Trace();
    private final Term one = new Term(READ_CODES);
    private final Term two = new Term(READ_CODES);
    private final Term metTerm = new Term(CODES);
    private boolean toldSome;
    private boolean metSome;

    public CompletionLab() {
    }

    public int feed(int a, int b, int c, int d, int e) {
        if (reader.size + 20 > TAPE) {
            return NONE;
        }
        reader.append(a);
        reader.append(b);
        reader.append(c);
        reader.append(d);
        reader.append(e);
        return reader.size;
    }

    public int text(int n) {
        if (n < 0 || n > reader.size) {
            return LACKING;
        }
        draft.reset();
        int lines = reader.readText(n, draft);
        reader.useUp(reader.size);
        if (lines < 0) {
            return NONE;
        }
        language.take(draft);
        lab.begin();
        toldSome = false;
        metSome = false;
        return lines;
    }

    public int fault(int what) {
        switch (what) {
            case 0:
                return reader.fault;
            case 1:
                return reader.fault == 0 ? NONE : reader.place;
            default:
                return NONE;
        }
    }

    public int step(int n) {
        if (n < 1 || n > STEPS_AT_ONCE) {
            return NONE;
        }
        if (lab.shelf.full) {
            return LACKING;
        }
        int done = 0;
        while (done < n && lab.goesOn()) {
            lab.runStep();
            done++;
        }
        return done;
    }

    public int equation(int k, int what) throws IndexOutOfBoundsException, NoSuchElementException {
        if (!lab.shelf.has(k)) {
            throw new IndexOutOfBoundsException("no such EQUATION");
        }
        Equation e = lab.shelf.equations[k];
        switch (what) {
            case 0:
                return e.state;
            case 1:
                return e.all;
            case 2:
                return e.origin;
            case 3:
                return e.state == GONE ? e.why : LACKING;
            case 4:
                return e.lines;
            case 5:
                return e.depth;
            case 6:
                return e.length;
            case 7:
                return e.sources;
            case 8:
                return e.born;
            case 9:
                return e.variables;
            default:
                throw new NoSuchElementException("no such what");
        }
    }

    public int code(int k, int side, int i) {
        if (!lab.shelf.has(k) || side < 0 || side > 1 || i < 0) {
            return NONE;
        }
        Equation e = lab.shelf.equations[k];
        int at = e.from(side);
        return i < e.till(side) - at ? e.code[at + i] : LACKING;
    }

    public int line(int k, int line, int i) {
        if (!lab.shelf.has(k) || line < 0 || i < 0) {
            return NONE;
        }
        Equation e = lab.shelf.equations[k];
        if (line >= e.lines) {
            return NONE;
        }
        return lab.proofs.codeOf(lab.proofs.find(e, line), i);
    }

    public int by(int k, int line, int what) {
        if (!lab.shelf.has(k) || line < 1 || what < 0 || what > 2) {
            return NONE;
        }
        Equation e = lab.shelf.equations[k];
        return line < e.lines ? lab.proofs.head(lab.proofs.find(e, line), what) : NONE;
    }

    public int uses(int k, int other) {
        if (!lab.shelf.has(k) || !lab.shelf.has(other)) {
            return NONE;
        }
        return lab.shelf.equations[k].hangsOn(other) ? 1 : 0;
    }

    public int users(int k, int state) {
        if (!lab.shelf.has(k) || state < WAITING || state > GONE) {
            return NONE;
        }
        int users = 0;
        for (int i = 0; i < lab.shelf.count; i++) {
            Equation e = lab.shelf.equations[i];
            if (e.state == state && e.hangsOn(k)) {
                users++;
            }
        }
        return users;
    }

    public int inState(int state, int i) {
        if (state < WAITING || state > GONE || i < 0) {
            return NONE;
        }
        int seen = 0;
        for (int k = 0; k < lab.shelf.count; k++) {
            if (lab.shelf.equations[k].state == state) {
                if (seen == i) {
                    return k;
                }
                seen++;
            }
        }
        return LACKING;
    }

    public int next() {
        return lab.pick(lab.steps + 1);
    }

    public int goal(int g, int what) {
        if (g < 0 || g >= language.goals || what < 0 || what > 4) {
            return NONE;
        }
        boolean meets = lab.meets(g);
        switch (what) {
            case 0:
                return meets ? 1 : 0;
            case 1:
                return lab.left.lines - 1;
            case 2:
                return lab.right.lines - 1;
            case 3:
                return lab.left.last.size;
            default:
                return lab.right.last.size;
        }
    }

    public int goalCode(int g, int side, int i) {
        if (g < 0 || g >= language.goals || side < 0 || side > 1 || i < 0) {
            return NONE;
        }
        lab.meets(g);
        Term t = side == 0 ? lab.left.last : lab.right.last;
        return i < t.size ? t.code[i] : LACKING;
    }

    public int goalSources(int g) {
        if (g < 0 || g >= language.goals) {
            return NONE;
        }
        return lab.meets(g) ? lab.sourcesOf(lab.left) | lab.sourcesOf(lab.right) : LACKING;
    }

    public int meetsIn(int g) {
        if (g < 0 || g >= language.goals) {
            return NONE;
        }
        if (lab.meets(g)) {
            return 0;
        }
        int found = LACKING;
        lab.save();
        for (int n = 1; n <= STEPS_AHEAD && found < 0 && lab.goesOn(); n++) {
            lab.runStep();
            if (lab.meets(g)) {
                found = n;
            }
        }
        lab.restore();
        return found;
    }

    public int normal(int n) {
        if (n < 0 || n > reader.size) {
            return LACKING;
        }
        boolean read = reader.readTermAlone(n, language, one);
        reader.useUp(n);
        if (!read) {
            return NONE;
        }
        toldTrace.last.take(one);
        lab.reducer.normalForm(toldTrace, NONE);
        toldSome = true;
        return toldTrace.last.size;
    }

    public int told(int line, int i) {
        if (!toldSome || line < 0 || i < -4 || i == -2) {
            return NONE;
        }
        if (line >= toldTrace.lines) {
            return LACKING;
        }
        if (i >= 0) {
            return i < toldTrace.sizes[line] ? toldTrace.code[line * CODES + i] : LACKING;
        }
        if (line == 0) {
            return LACKING;
        }
        if (i == -1) {
            return toldTrace.by[line];
        }
        return i == -3 ? toldTrace.place[line] : toldTrace.way[line];
    }

    public int compare(int n) {
        if (n < 0 || n > reader.size) {
            return LACKING;
        }
        boolean read = reader.readTwo(n, language, one, two);
        reader.useUp(n);
        if (!read) {
            return NONE;
        }
        if (one.alike(two)) {
            return 0;
        }
        if (language.greater(one, 0, two, 0)) {
            return 1;
        }
        return language.greater(two, 0, one, 0) ? 2 : 3;
    }

    public int meet(int n) {
        if (n < 0 || n > reader.size) {
            return LACKING;
        }
        boolean read = reader.readTwo(n, language, one, two);
        reader.useUp(n);
        if (!read) {
            return NONE;
        }
        metSome = false;
        Unifier unifier = lab.overlaps.unifier;
        if (!unifier.unify(one, 0, two, 0)) {
            return IMPOSSIBLE;
        }
        metTerm.size = 0;
        unifier.emit(one, 0, one.size, 0, metTerm);
        if (metTerm.size > CODES) {
            return IMPOSSIBLE;
        }
        metSome = true;
        return metTerm.size;
    }

    public int met(int i) {
        if (i < 0) {
            return NONE;
        }
        return metSome && i < metTerm.size ? metTerm.code[i] : LACKING;
    }

    public int overlaps(int x, int y) {
        if (!lab.shelf.has(x) || !lab.shelf.has(y)) {
            return NONE;
        }
        int many = 0;
        lab.overlaps.begin(x, y);
        while (many < Overlaps.MANY && lab.overlaps.advance()) {
            many++;
        }
        return many;
    }

    public int overlap(int x, int y, int i, int what) {
        if (!lab.shelf.has(x) || !lab.shelf.has(y) || i < 0 || what < 0 || what > 6) {
            return NONE;
        }
        Overlaps overlaps = lab.overlaps;
        overlaps.begin(x, y);
        boolean there = overlaps.advance();
        for (int k = 0; k < i && there; k++) {
            there = overlaps.advance();
        }
        if (!there) {
            return LACKING;
        }
        switch (what) {
            case 0:
                return overlaps.wayX();
            case 1:
                return overlaps.wayY();
            case 2:
                return overlaps.place;
            case 3:
                return overlaps.peak.size;
            case 4:
                return overlaps.first.size;
            case 5:
                return overlaps.second.size;
            default:
                return overlaps.sidesFit() && lab.joins(overlaps.first, overlaps.second) ? 1 : 0;
        }
    }

    public int open(int what) {
        if (what < 0 || what > 2) {
            return NONE;
        }
        int found = 0;
        Shelf shelf = lab.shelf;
        for (int a = 0; a < shelf.actives; a++) {
            for (int b = 0; b < shelf.actives; b++) {
                found += lab.openPairs(shelf.active[a], shelf.active[b], what);
            }
        }
        return found;
    }

    public int ifStep(int n, int what) {
        if (n < 1 || n > STEPS_AT_ONCE || what < 0 || what > 4) {
            return NONE;
        }
        lab.save();
        for (int done = 0; done < n && lab.goesOn(); done++) {
            lab.runStep();
        }
        Shelf shelf = lab.shelf;
        int answer;
        switch (what) {
            case 0:
                answer = shelf.actives;
                break;
            case 1:
                answer = shelf.howMany(WAITING);
                break;
            case 2:
                answer = shelf.count;
                break;
            case 3:
                answer = lab.finished() ? 1 : 0;
                break;
            default:
                answer = shelf.full ? 1 : 0;
                break;
        }
        lab.restore();
        return answer;
    }

    public int needed() {
        if (lab.shelf.actives == 0) {
            return LACKING;
        }
        int common = (1 << AXIOMS) - 1;
        for (int a = 0; a < lab.shelf.actives; a++) {
            common &= lab.shelf.equations[lab.shelf.active[a]].sources;
        }
        return common;
    }

    public int turnedRank() {
        language.turned = true;
        int answer = language.unturnable();
        language.turned = false;
        return answer;
    }

    public int bestWeight() {
        int best = NONE;
        int fewest = AXIOMS + 1;
        for (int k = 0; k < language.signs; k++) {
            language.weight[k]++;
            int left = language.unturnable();
            language.weight[k]--;
            if (left < fewest) {
                fewest = left;
                best = k;
            }
        }
        return best;
    }

    public int sign(int k, int what) {
        if (k < 0 || k >= language.signs || what < 0 || what > 3) {
            return NONE;
        }
        switch (what) {
            case 0:
                return language.arity[k];
            case 1:
                return language.weight[k];
            case 2:
                return lab.shelf.sidesWith(k);
            default:
                return language.letters(k);
        }
    }

    public int count(int what) {
        switch (what) {
            case 0:
                return language.signs;
            case 1:
                return language.ratio;
            case 2:
                return language.most;
            case 3:
                return language.axioms;
            case 4:
                return language.goals;
            case 5:
                return lab.shelf.count;
            case 6:
            case 7:
            case 8:
            case 9:
                return lab.shelf.howMany(what - 6);
            case 10:
                return lab.steps;
            case 20:
                return lab.shelf.full ? 1 : 0;
            case 21:
                return lab.finished() ? 1 : 0;
            case 22:
                return lab.goalsThatMeet();
            case 23:
                return reader.size;
            default:
                return what >= TALLY_JOINED && what <= TALLY_CAME ? lab.tally[what] : NONE;
        }
    }

    /** CODES in a row; a size one above the room tells that there were too many. */
    private static final class Term {
        final byte[] code;
        final int[] end;
        int size;

        Term(int room) {
            code = new byte[room];
            end = new int[room];
        }

        void add(int c) {
            if (size < code.length) {
                code[size] = (byte) c;
                size++;
            } else {
                size = code.length + 1;
            }
        }

        void addAll(byte[] from, int start, int stop) {
            for (int i = start; i < stop && size < code.length; i++) {
                code[size] = from[i];
                size++;
                start++;
            }
            if (start < stop) {
                size = code.length + 1;
            }
        }

        void take(Term other) {
            size = 0;
            for (int i = 0; i < other.size; i++) {
                code[i] = other.code[i];
                end[i] = other.end[i];
            }
            size = other.size;
        }

        void take(byte[] from, int start, int stop, int[] arity) {
            size = 0;
            addAll(from, start, stop);
            close(arity);
        }

        /** From the right, so that the ends of what is below are known already. */
        void close(int[] arity) {
            for (int i = size - 1; i >= 0; i--) {
                int stop = i + 1;
                int below = code[i] < VARIABLE ? arity[code[i]] : 0;
                for (int n = 0; n < below && stop < size; n++) {
                    stop = end[stop];
                }
                end[i] = stop;
            }
        }

        boolean alike(Term other) {
            if (size != other.size) {
                return false;
            }
            for (int i = 0; i < size; i++) {
                if (code[i] != other.code[i]) {
                    return false;
                }
            }
            return true;
        }
    }

    /** What a TEXT tells, and the order that its signs make. */
    private static final class Language {
        final int[] word = new int[SIGNS];
        final int[] arity = new int[SIGNS];
        final int[] weight = new int[SIGNS];
        final Term[] side = new Term[2 * (AXIOMS + GOALS)];
        private final int[] often = new int[2 * VARIABLES];
        int signs;
        int ratio = 4;
        int most = 20;
        boolean ratioTold;
        boolean mostTold;
        int axioms;
        int goals;
        boolean turned;

        Language() {
            for (int i = 0; i < side.length; i++) {
                side[i] = new Term(READ_CODES);
            }
        }

        void reset() {
            signs = 0;
            ratio = 4;
            most = 20;
            ratioTold = false;
            mostTold = false;
            axioms = 0;
            goals = 0;
        }

        void take(Language other) {
            signs = other.signs;
            for (int k = 0; k < SIGNS; k++) {
                word[k] = other.word[k];
                arity[k] = other.arity[k];
                weight[k] = other.weight[k];
            }
            ratio = other.ratio;
            most = other.most;
            axioms = other.axioms;
            goals = other.goals;
            for (int i = 0; i < side.length; i++) {
                side[i].take(other.side[i]);
            }
        }

        Term axiomSide(int axiom, int which) {
            return side[2 * axiom + which];
        }

        Term goalSide(int goal, int which) {
            return side[2 * (AXIOMS + goal) + which];
        }

        int signOf(int packed) {
            for (int k = 0; k < signs; k++) {
                if (word[k] == packed) {
                    return k;
                }
            }
            return NONE;
        }

        int letters(int k) {
            int letters = 0;
            for (int rest = word[k]; rest > 0 && letters < LETTERS; rest /= Reader.BASE) {
                letters++;
            }
            return letters;
        }

        /** How many axioms have neither side GREATER. */
        int unturnable() {
            int many = 0;
            for (int k = 0; k < axioms; k++) {
                Term s = axiomSide(k, 0);
                Term t = axiomSide(k, 1);
                if (!greater(s, 0, t, 0) && !greater(t, 0, s, 0)) {
                    many++;
                }
            }
            return many;
        }

        /** Whether the TERM of s at i is GREATER than that of t at j: a loop down the first TERMS that are unlike. */
        boolean greater(Term s, int i, Term t, int j) {
            for (int level = 0; level <= CODES; level++) {
                int more = surplus(s, i, t, j);
                if (more < 0 || lacks(s, i, t, j)) {
                    return false;
                }
                if (more > 0) {
                    return true;
                }
                int head = s.code[i];
                if (head >= VARIABLE || t.code[j] >= VARIABLE) {
                    return false;
                }
                if (head != t.code[j]) {
                    return turned ? head < t.code[j] : head > t.code[j];
                }
                int same = 1;
                while (i + same < s.end[i] && j + same < t.end[j] && s.code[i + same] == t.code[j + same]) {
                    same++;
                }
                if (i + same >= s.end[i] || j + same >= t.end[j]) {
                    return false;
                }
                int below = i + 1;
                for (int n = 0; n < ARITIES && below < i + same && s.end[below] <= i + same; n++) {
                    below = s.end[below];
                }
                j += below - i;
                i = below;
            }
            return false;
        }

        /** By how much the WEIGHT of the TERM of s is more. */
        private int surplus(Term s, int i, Term t, int j) {
            int more = 0;
            for (int k = i; k < s.end[i]; k++) {
                more += s.code[k] < VARIABLE ? weight[s.code[k]] : 1;
            }
            for (int k = j; k < t.end[j]; k++) {
                more -= t.code[k] < VARIABLE ? weight[t.code[k]] : 1;
            }
            return more;
        }

        /** Whether a VARIABLE is more often in the TERM of t; often is all 0 before and behind. */
        private boolean lacks(Term s, int i, Term t, int j) {
            for (int k = i; k < s.end[i]; k++) {
                if (s.code[k] >= VARIABLE) {
                    often[s.code[k] - VARIABLE]++;
                }
            }
            boolean lacks = false;
            for (int k = j; k < t.end[j]; k++) {
                if (t.code[k] >= VARIABLE) {
                    often[t.code[k] - VARIABLE]--;
                    lacks = lacks || often[t.code[k] - VARIABLE] < 0;
                }
            }
            for (int k = i; k < s.end[i]; k++) {
                if (s.code[k] >= VARIABLE) {
                    often[s.code[k] - VARIABLE] = 0;
                }
            }
            for (int k = j; k < t.end[j]; k++) {
                if (t.code[k] >= VARIABLE) {
                    often[t.code[k] - VARIABLE] = 0;
                }
            }
            return lacks;
        }
    }

    /** The TAPE, its TOKENS one by one, and what they make. */
    private static final class Reader {
        static final int BASE = 27;
        private static final int WORD_SIGN = ((19 * BASE + 9) * BASE + 7) * BASE + 14;
        private static final int WORD_RATIO = (((18 * BASE + 1) * BASE + 20) * BASE + 9) * BASE + 15;
        private static final int WORD_MOST = ((13 * BASE + 15) * BASE + 19) * BASE + 20;
        private static final int WORD_AXIOM = (((1 * BASE + 24) * BASE + 9) * BASE + 15) * BASE + 13;
        private static final int WORD_GOAL = ((7 * BASE + 15) * BASE + 1) * BASE + 12;

        private static final int MUCH = 100000;

        private static final int WORD = 1;
        private static final int NUMBER = 2;
        private static final int END = 3;
        private static final int UNKNOWN = 4;

        private static final int CANNOT_STAND = 1;
        private static final int TOO_MUCH = 2;
        private static final int TOLD_ALREADY = 3;

        final byte[] tape = new byte[TAPE];
        int size;
        int fault;
        int place;
        private int stop;
        private int at;
        private int kind;
        private int begins;
        private int value;
        private final int[] variable = new int[READ_VARIABLES];
        private int variables;
        private final int[] missing = new int[READ_CODES];

        void append(int number) {
            for (int shift = 24; shift >= 0 && size < TAPE; shift -= 8) {
                tape[size] = (byte) (number >> shift);
                size++;
            }
        }

        void useUp(int n) {
            System.arraycopy(tape, n, tape, 0, size - n);
            size -= n;
        }

        private void start(int n) {
            fault = 0;
            place = 0;
            stop = n;
            at = 0;
            variables = 0;
            advance();
        }

        private boolean fail(int which) {
            fault = which;
            place = begins;
            return false;
        }

        private static boolean isLetter(int c) {
            return c >= 'a' && c <= 'z';
        }

        private static boolean isDigit(int c) {
            return c >= '0' && c <= '9';
        }

        /** A mark is its own kind. */
        private void advance() {
            while (at < stop && (tape[at] == 10 || tape[at] == 32)) {
                at++;
            }
            begins = at;
            value = 0;
            if (at >= stop) {
                kind = END;
                return;
            }
            int c = tape[at];
            if (isLetter(c)) {
                while (at < stop && isLetter(tape[at])) {
                    if (at - begins < LETTERS) {
                        value = value * BASE + tape[at] - 'a' + 1;
                    }
                    at++;
                }
                kind = at - begins > LETTERS ? UNKNOWN : WORD;
            } else if (isDigit(c)) {
                while (at < stop && isDigit(tape[at])) {
                    value = Math.min(MUCH, value * 10 + tape[at] - '0');
                    at++;
                }
                kind = NUMBER;
            } else {
                kind = c == ';' || c == '=' || c == '(' || c == ')' || c == ',' ? c : UNKNOWN;
                at++;
            }
        }

        private boolean takes(int wanted) {
            if (kind != wanted) {
                return fail(CANNOT_STAND);
            }
            advance();
            return true;
        }

        /** How many LINES; NONE with a FAULT. */
        int readText(int n, Language draft) {
            start(n);
            int lines = 0;
            while (kind != END && lines < TAPE) {
                if (!readLine(draft) || !takes(';')) {
                    return NONE;
                }
                lines++;
            }
            return lines;
        }

        private boolean readLine(Language draft) {
            if (kind != WORD) {
                return fail(CANNOT_STAND);
            }
            variables = 0;
            switch (value) {
                case WORD_SIGN:
                    return readSign(draft);
                case WORD_RATIO:
                case WORD_MOST:
                    return readSetting(draft, value == WORD_RATIO);
                case WORD_AXIOM:
                    if (draft.axioms >= AXIOMS) {
                        return fail(TOO_MUCH);
                    }
                    advance();
                    draft.axioms++;
                    return readEquation(draft, draft.axiomSide(draft.axioms - 1, 0), draft.axiomSide(draft.axioms - 1, 1));
                case WORD_GOAL:
                    if (draft.goals >= GOALS) {
                        return fail(TOO_MUCH);
                    }
                    advance();
                    draft.goals++;
                    return readEquation(draft, draft.goalSide(draft.goals - 1, 0), draft.goalSide(draft.goals - 1, 1));
                default:
                    return fail(CANNOT_STAND);
            }
        }

        private static boolean isLate(Language draft) {
            return draft.axioms + draft.goals > 0;
        }

        private static boolean isReserved(int word) {
            return word == WORD_SIGN || word == WORD_RATIO || word == WORD_MOST || word == WORD_AXIOM || word == WORD_GOAL;
        }

        private boolean readSign(Language draft) {
            if (isLate(draft)) {
                return fail(CANNOT_STAND);
            }
            if (draft.signs >= SIGNS) {
                return fail(TOO_MUCH);
            }
            advance();
            if (kind != WORD || isReserved(value)) {
                return fail(CANNOT_STAND);
            }
            if (draft.signOf(value) >= 0) {
                return fail(TOLD_ALREADY);
            }
            int k = draft.signs;
            draft.word[k] = value;
            advance();
            if (!isNumber(0, ARITIES)) {
                return false;
            }
            draft.arity[k] = value;
            advance();
            if (!isNumber(1, 9)) {
                return false;
            }
            draft.weight[k] = value;
            draft.signs++;
            advance();
            return true;
        }

        private boolean readSetting(Language draft, boolean isRatio) {
            if (isLate(draft)) {
                return fail(CANNOT_STAND);
            }
            if (isRatio ? draft.ratioTold : draft.mostTold) {
                return fail(TOLD_ALREADY);
            }
            advance();
            if (!(isRatio ? isNumber(1, 9) : isNumber(8, 30))) {
                return false;
            }
            if (isRatio) {
                draft.ratio = value;
                draft.ratioTold = true;
            } else {
                draft.most = value;
                draft.mostTold = true;
            }
            advance();
            return true;
        }

        private boolean isNumber(int least, int greatest) {
            if (kind != NUMBER) {
                return fail(CANNOT_STAND);
            }
            return value >= least && value <= greatest || fail(TOO_MUCH);
        }

        boolean readTermAlone(int n, Language language, Term t) {
            start(n);
            return readTerm(language, t) && (kind == END || fail(CANNOT_STAND));
        }

        boolean readTwo(int n, Language language, Term s, Term t) {
            start(n);
            return readEquation(language, s, t) && (kind == END || fail(CANNOT_STAND));
        }

        private boolean readEquation(Language language, Term s, Term t) {
            return readTerm(language, s) && takes('=') && readTerm(language, t);
        }

        private boolean readTerm(Language language, Term t) {
            t.size = 0;
            int deep = 0;
            for (int codes = 0; codes <= READ_CODES; codes++) {
                if (!readHead(language, t)) {
                    return false;
                }
                int c = t.code[t.size - 1];
                int below = c < VARIABLE ? language.arity[c] : 0;
                if (below > 0) {
                    if (!takes('(')) {
                        return false;
                    }
                    missing[deep] = below;
                    deep++;
                    continue;
                }
                while (deep > 0 && missing[deep - 1] == 1) {
                    if (!takes(')')) {
                        return false;
                    }
                    deep--;
                }
                if (deep == 0) {
                    t.close(language.arity);
                    return true;
                }
                missing[deep - 1]--;
                if (!takes(',')) {
                    return false;
                }
            }
            return fail(CANNOT_STAND);
        }

        private boolean readHead(Language language, Term t) {
            if (kind != WORD || isReserved(value)) {
                return fail(CANNOT_STAND);
            }
            if (t.size >= READ_CODES) {
                return fail(TOO_MUCH);
            }
            int c = language.signOf(value);
            if (c < 0) {
                int v = 0;
                while (v < variables && variable[v] != value) {
                    v++;
                }
                if (v >= READ_VARIABLES) {
                    return fail(TOO_MUCH);
                }
                if (v == variables) {
                    variable[v] = value;
                    variables++;
                }
                c = VARIABLE + v;
            }
            t.add(c);
            advance();
            return true;
        }
    }

    /** An EQUATION: the CODES of LEFT, then those of RIGHT. */
    private static final class Equation {
        final byte[] code = new byte[2 * CODES];
        int left;
        int all;
        int variables;
        int state;
        int ways;
        int origin;
        int why;
        int born;
        int depth;
        int length;
        int sources;
        int proofAt;
        int lines;
        final long[] used = new long[(EQUATIONS + 63) / 64];

        int from(int side) {
            return side == 0 ? 0 : left;
        }

        int till(int side) {
            return side == 0 ? left : all;
        }

        boolean isActive() {
            return state == RULE || state == FLAT;
        }

        boolean hangsOn(int other) {
            return (used[other >> 6] >> (other & 63) & 1) != 0;
        }

        /** One line more that uses another EQUATION. */
        void cite(int number, Equation other) {
            depth = Math.max(depth, other.depth + 1);
            length = Math.min(LONGEST, length + other.length);
            sources |= other.sources;
            for (int i = 0; i < used.length; i++) {
                used[i] |= other.used[i];
            }
            used[number >> 6] |= 1L << (number & 63);
        }

        boolean holds(int sign, int start, int stop) {
            for (int i = start; i < stop; i++) {
                if (code[i] == sign) {
                    return true;
                }
            }
            return false;
        }
    }

    /** All EQUATIONS, those that are ACTIVE by numbers, and how both stood when they were kept. */
    private static final class Shelf {
        final Equation[] equations = new Equation[EQUATIONS];
        final int[] active = new int[ACTIVES];
        final int[] head = new int[2 * ACTIVES];
        int count;
        int actives;
        boolean full;
        private final int[] keptState = new int[EQUATIONS];
        private final int[] keptWhy = new int[EQUATIONS];
        private final int[] keptActive = new int[ACTIVES];
        private int keptCount;
        private int keptActives;
        private boolean keptFull;

        Shelf() {
            for (int k = 0; k < EQUATIONS; k++) {
                equations[k] = new Equation();
            }
        }

        void begin() {
            count = 0;
            actives = 0;
            full = false;
        }

        boolean has(int k) {
            return k >= 0 && k < count;
        }

        /** Asked ahead of each EQUATION that is made; where there is no room the LAB is FULL. */
        boolean hasRoom(boolean alsoActive) {
            if (count >= EQUATIONS || alsoActive && actives >= ACTIVES) {
                full = true;
            }
            return !full;
        }

        void activate(int k) {
            if (actives < ACTIVES) {
                active[actives] = k;
                actives++;
                readHeads();
            }
        }

        /** The first CODE of the from side of each ACTIVE one by each WAY: most are passed over by it. */
        private void readHeads() {
            for (int a = 0; a < actives; a++) {
                Equation e = equations[active[a]];
                head[2 * a] = (e.ways & 1) != 0 ? e.code[0] : NONE;
                head[2 * a + 1] = (e.ways & 2) != 0 ? e.code[e.left] : NONE;
            }
        }

        void drop(int k, int why) {
            equations[k].state = GONE;
            equations[k].why = why;
            int left = 0;
            for (int a = 0; a < actives; a++) {
                if (active[a] != k) {
                    active[left] = active[a];
                    left++;
                }
            }
            actives = left;
            readHeads();
        }

        int howMany(int state) {
            int many = 0;
            for (int k = 0; k < count; k++) {
                if (equations[k].state == state) {
                    many++;
                }
            }
            return many;
        }

        int sidesWith(int sign) {
            int sides = 0;
            for (int a = 0; a < actives; a++) {
                Equation e = equations[active[a]];
                sides += e.holds(sign, 0, e.left) ? 1 : 0;
                sides += e.holds(sign, e.left, e.all) ? 1 : 0;
            }
            return sides;
        }

        void keep() {
            for (int k = 0; k < count; k++) {
                keptState[k] = equations[k].state;
                keptWhy[k] = equations[k].why;
            }
            System.arraycopy(active, 0, keptActive, 0, actives);
            keptCount = count;
            keptActives = actives;
            keptFull = full;
        }

        void bringBack() {
            count = keptCount;
            actives = keptActives;
            full = keptFull;
            for (int k = 0; k < count; k++) {
                equations[k].state = keptState[k];
                equations[k].why = keptWhy[k];
            }
            System.arraycopy(keptActive, 0, active, 0, actives);
            readHeads();
        }
    }

    /** A TERM and what it became, line by line; last is the TERM of the last line. */
    private static final class Trace {
        final byte[] code = new byte[(REDUCTIONS + 1) * CODES];
        final int[] sizes = new int[REDUCTIONS + 1];
        final int[] by = new int[REDUCTIONS + 1];
        final int[] place = new int[REDUCTIONS + 1];
        final int[] way = new int[REDUCTIONS + 1];
        final Term last = new Term(CODES);
        int lines;

        void begin() {
            lines = 0;
            addLine(NONE, 0, 0);
        }

        void addLine(int equation, int where, int how) {
            if (lines <= REDUCTIONS) {
                System.arraycopy(last.code, 0, code, lines * CODES, last.size);
                sizes[lines] = last.size;
                by[lines] = equation;
                place[lines] = where;
                way[lines] = how;
                lines++;
            }
        }
    }

    /** Puts TERMS for the VARIABLES of what is ACTIVE, and reduces by it. */
    private static final class Reducer {
        int place;
        int by;
        int way;
        private final Language language;
        private final Shelf shelf;
        private final int[] start = new int[VARIABLES];
        private final int[] stop = new int[VARIABLES];
        private final Term made = new Term(CODES);
        private final byte[] tail = new byte[CODES];

        Reducer(Language language, Shelf shelf) {
            this.language = language;
            this.shelf = shelf;
        }

        /** Whether TERMS for VARIABLES make a row of an EQUATION's CODES those of t from p on. */
        boolean fits(Equation e, int from, int till, Term t, int p) {
            byte[] pattern = e.code;
            for (int v = 0; v < e.variables; v++) {
                start[v] = NONE;
            }
            int j = p;
            for (int i = from; i < till; i++) {
                int c = pattern[i];
                if (j >= t.size) {
                    return false;
                }
                if (c < VARIABLE) {
                    if (t.code[j] != c) {
                        return false;
                    }
                    j++;
                    continue;
                }
                int v = c - VARIABLE;
                if (start[v] < 0) {
                    start[v] = j;
                    stop[v] = t.end[j];
                } else {
                    for (int k = 0; k < stop[v] - start[v]; k++) {
                        if (j + k >= t.size || t.code[start[v] + k] != t.code[j + k]) {
                            return false;
                        }
                    }
                }
                j = t.end[j];
            }
            return true;
        }

        /** Makes the to side so, where nothing lacks and the whole isn't too long. */
        private boolean puts(Equation e, int side, Term t, int p) {
            made.size = 0;
            for (int i = e.from(side); i < e.till(side); i++) {
                int c = e.code[i];
                if (c < VARIABLE) {
                    made.add(c);
                } else if (start[c - VARIABLE] < 0) {
                    return false;
                } else {
                    made.addAll(t.code, start[c - VARIABLE], stop[c - VARIABLE]);
                }
            }
            if (made.size > CODES || t.size - (t.end[p] - p) + made.size > CODES) {
                return false;
            }
            made.close(language.arity);
            return true;
        }

        private void splice(Term t, int p) {
            int rest = t.end[p];
            int behind = t.size - rest;
            System.arraycopy(t.code, rest, tail, 0, behind);
            System.arraycopy(made.code, 0, t.code, p, made.size);
            System.arraycopy(tail, 0, t.code, p + made.size, behind);
            t.size = p + made.size + behind;
            t.close(language.arity);
        }

        /** At the first PLACE, by the first ACTIVE (of a number alone, or any but one), by the first WAY. */
        boolean reduceOnce(Term t, int only, int but) {
            int[] head = shelf.head;
            int many = 2 * shelf.actives;
            for (int p = 0; p < t.size; p++) {
                int c = t.code[p];
                if (c >= VARIABLE) {
                    continue;
                }
                for (int n = 0; n < many; n++) {
                    if (head[n] != c && head[n] < VARIABLE) {
                        continue;
                    }
                    int k = shelf.active[n >> 1];
                    int w = n & 1;
                    Equation e = shelf.equations[k];
                    if (k == but || only >= 0 && k != only) {
                        continue;
                    }
                    if (!fits(e, e.from(w), e.till(w), t, p) || !puts(e, 1 - w, t, p)) {
                        continue;
                    }
                    if (e.state == FLAT && !language.greater(t, p, made, 0)) {
                        continue;
                    }
                    splice(t, p);
                    place = p;
                    by = k;
                    way = w;
                    return true;
                }
            }
            return false;
        }

        /** The NORMAL FORM of the last line of a trace, by all that are ACTIVE but one. */
        void normalForm(Trace trace, int but) {
            trace.begin();
            for (int n = 0; n < REDUCTIONS; n++) {
                if (!reduceOnce(trace.last, NONE, but)) {
                    return;
                }
                trace.addLine(by, place, way);
            }
        }
    }

    /** The most general TERMS for VARIABLES that make two TERMS alike: classes of nodes, a TERM or none to each. */
    private static final class Unifier {
        private static final int FIRST_VARIABLE = 2 * CODES;
        private static final int NAMES = 2 * VARIABLES;
        private static final int NODES = FIRST_VARIABLE + NAMES;
        private static final int LOOPS = 10000;

        private final int[] code = new int[FIRST_VARIABLE];
        private final int[] stop = new int[FIRST_VARIABLE];
        private final int[] parent = new int[NODES];
        private final int[] shape = new int[NODES];
        private final int[] least = new int[NODES];
        private final int[] work = new int[2 * 4 * NODES];
        private final boolean[] known = new boolean[NAMES];
        private final int[] stackAt = new int[NAMES + 2];
        private final int[] stackStop = new int[NAMES + 2];
        private int pending;

        private int find(int node) {
            int root = node;
            for (int n = 0; n < NODES && parent[root] != root; n++) {
                root = parent[root];
            }
            return root;
        }

        private int classAt(int node) {
            int c = code[node];
            return find(c < VARIABLE ? node : FIRST_VARIABLE + c - VARIABLE);
        }

        private void push(int a, int b) {
            if (pending + 1 < work.length) {
                work[pending] = a;
                work[pending + 1] = b;
                pending += 2;
            }
        }

        /** The TERM of s at p and the whole of t, whose VARIABLES get numbers that much higher. */
        boolean unify(Term s, int p, Term t, int higher) {
            for (int i = 0; i < s.size; i++) {
                setNode(i, s.code[i], s.end[i]);
            }
            for (int i = 0; i < t.size; i++) {
                int c = t.code[i];
                setNode(CODES + i, c < VARIABLE ? c : c + higher, CODES + t.end[i]);
            }
            for (int v = 0; v < NAMES; v++) {
                parent[FIRST_VARIABLE + v] = FIRST_VARIABLE + v;
                shape[FIRST_VARIABLE + v] = NONE;
                least[FIRST_VARIABLE + v] = v;
            }
            pending = 0;
            push(p, CODES);
            for (int n = 0; n < LOOPS && pending > 0; n++) {
                pending -= 2;
                int a = classAt(work[pending]);
                int b = classAt(work[pending + 1]);
                if (a != b && !join(a, b)) {
                    return false;
                }
            }
            return isFinite();
        }

        private void setNode(int node, int c, int till) {
            code[node] = c;
            stop[node] = till;
            parent[node] = node;
            shape[node] = node;
            least[node] = NONE;
        }

        private boolean join(int a, int b) {
            int s = shape[a];
            int t = shape[b];
            if (s >= 0 && t >= 0 && code[s] != code[t]) {
                return false;
            }
            parent[b] = a;
            shape[a] = s >= 0 ? s : t;
            if (least[a] < 0 || least[b] >= 0 && least[b] < least[a]) {
                least[a] = least[b];
            }
            if (s >= 0 && t >= 0) {
                int i = s + 1;
                int j = t + 1;
                for (int n = 0; n < ARITIES && i < stop[s] && j < stop[t]; n++) {
                    push(i, j);
                    i = stop[i];
                    j = stop[j];
                }
            }
            return true;
        }

        /** No VARIABLE stands below itself: as long as there is one, one more is known of which all below are known. */
        private boolean isFinite() {
            for (int v = 0; v < NAMES; v++) {
                known[v] = false;
            }
            for (int pass = 0; pass <= NAMES; pass++) {
                boolean all = true;
                for (int v = 0; v < NAMES; v++) {
                    known[v] = known[v] || allKnown(shape[find(FIRST_VARIABLE + v)]);
                    all = all && known[v];
                }
                if (all) {
                    return true;
                }
            }
            return false;
        }

        private boolean allKnown(int node) {
            if (node < 0) {
                return true;
            }
            for (int i = node; i < stop[node]; i++) {
                if (code[i] >= VARIABLE && !known[code[i] - VARIABLE]) {
                    return false;
                }
            }
            return true;
        }

        /** Puts a row of CODES behind a TERM, with what their VARIABLES became. */
        void emit(Term from, int start, int stop, int higher, Term to) {
            for (int i = start; i < stop; i++) {
                int c = from.code[i];
                if (c < VARIABLE) {
                    to.add(c);
                } else {
                    emitName(c - VARIABLE + higher, to);
                }
            }
        }

        private void emitName(int name, Term to) {
            int deep = 0;
            for (int n = 0; n < LOOPS && to.size <= CODES; n++) {
                int root = find(FIRST_VARIABLE + name);
                int s = shape[root];
                if (s < 0) {
                    to.add(VARIABLE + least[root]);
                } else if (deep < stackAt.length) {
                    stackAt[deep] = s;
                    stackStop[deep] = stop[s];
                    deep++;
                }
                name = NONE;
                for (int m = 0; m < LOOPS && deep > 0 && name < 0 && to.size <= CODES; m++) {
                    int i = stackAt[deep - 1];
                    if (i >= stackStop[deep - 1]) {
                        deep--;
                    } else {
                        stackAt[deep - 1]++;
                        if (code[i] < VARIABLE) {
                            to.add(code[i]);
                        } else {
                            name = code[i] - VARIABLE;
                        }
                    }
                }
                if (name < 0) {
                    return;
                }
            }
        }
    }

    /** OVERLAPS of one EQUATION by another, one after the other: WAYS, then PLACES. */
    private static final class Overlaps {
        static final int MANY = 4 * CODES;
        private static final int TURNS = 4;

        final Unifier unifier = new Unifier();
        final Term peak = new Term(CODES);
        final Term first = new Term(CODES);
        final Term second = new Term(CODES);
        int place;
        int peakPlace;
        int x;
        int y;
        private final Language language;
        private final Shelf shelf;
        private final Term xFrom = new Term(CODES);
        private final Term xTo = new Term(CODES);
        private final Term yFrom = new Term(CODES);
        private final Term yTo = new Term(CODES);
        private int turn;

        Overlaps(Language language, Shelf shelf) {
            this.language = language;
            this.shelf = shelf;
        }

        int wayX() {
            return turn >> 1;
        }

        int wayY() {
            return turn & 1;
        }

        void begin(int one, int other) {
            x = one;
            y = other;
            turn = NONE;
            place = NONE;
            xFrom.size = 0;
        }

        boolean advance() {
            for (int n = 0; n <= TURNS * (CODES + 1); n++) {
                place++;
                if (place >= xFrom.size && !turns()) {
                    return false;
                }
                if (overlapsHere()) {
                    return true;
                }
            }
            return false;
        }

        /** To the next two WAYS that both have. */
        private boolean turns() {
            Equation e = shelf.equations[x];
            Equation f = shelf.equations[y];
            for (turn++; turn < TURNS; turn++) {
                if ((e.ways >> wayX() & 1) != 0 && (f.ways >> wayY() & 1) != 0) {
                    xFrom.take(e.code, e.from(wayX()), e.till(wayX()), language.arity);
                    xTo.take(e.code, e.from(1 - wayX()), e.till(1 - wayX()), language.arity);
                    yFrom.take(f.code, f.from(wayY()), f.till(wayY()), language.arity);
                    yTo.take(f.code, f.from(1 - wayY()), f.till(1 - wayY()), language.arity);
                    place = 0;
                    return true;
                }
            }
            return false;
        }

        private boolean overlapsHere() {
            int c = xFrom.code[place];
            if (c >= VARIABLE || place == 0 && x == y && wayX() == wayY()) {
                return false;
            }
            if (yFrom.code[0] < VARIABLE && yFrom.code[0] != c) {
                return false;
            }
            if (!unifier.unify(xFrom, place, yFrom, VARIABLES)) {
                return false;
            }
            peak.size = 0;
            unifier.emit(xFrom, 0, place, 0, peak);
            peakPlace = peak.size;
            unifier.emit(xFrom, place, xFrom.size, 0, peak);
            first.size = 0;
            unifier.emit(xFrom, 0, place, 0, first);
            unifier.emit(yTo, 0, yTo.size, VARIABLES, first);
            unifier.emit(xFrom, xFrom.end[place], xFrom.size, 0, first);
            second.size = 0;
            unifier.emit(xTo, 0, xTo.size, 0, second);
            if (!sidesFit()) {
                return true;
            }
            first.close(language.arity);
            second.close(language.arity);
            if (peak.size > CODES) {
                return true;
            }
            peak.close(language.arity);
            return !climbs();
        }

        /** A side that is GREATER so; a RULE's never is. */
        private boolean climbs() {
            return shelf.equations[x].ways == BOTH_WAYS && language.greater(second, 0, peak, 0)
                    || shelf.equations[y].ways == BOTH_WAYS && language.greater(first, peakPlace, peak, peakPlace);
        }

        boolean sidesFit() {
            return first.size <= CODES && second.size <= CODES;
        }

        boolean tooBig() {
            if (Math.max(peak.size, Math.max(first.size, second.size)) > language.most) {
                return true;
            }
            return Integer.bitCount(names(peak) | names(first) | names(second)) > VARIABLES;
        }

        private int names(Term t) {
            int names = 0;
            for (int i = 0; i < t.size; i++) {
                if (t.code[i] >= VARIABLE) {
                    names |= 1 << t.code[i] - VARIABLE;
                }
            }
            return names;
        }
    }

    /** The lines of all PROOFS in one row: of each how it is made, its size, its CODES. */
    private static final class Proofs {
        private static final int HEAD = 4;
        private static final int FIRST_ROOM = 8192;

        int used;
        private byte[] row = new byte[FIRST_ROOM];
        private final int[] name = new int[2 * VARIABLES];
        private int names;

        void begin() {
            used = 0;
        }

        void forgetNames() {
            names = 0;
            Arrays.fill(name, NONE);
        }

        /** VARIABLES get their numbers as they come. */
        int rename(int c) {
            if (c < VARIABLE) {
                return c;
            }
            if (name[c - VARIABLE] < 0) {
                name[c - VARIABLE] = VARIABLE + names;
                names++;
            }
            return name[c - VARIABLE];
        }

        /** Both TERMS one behind the other, renamed: how many VARIABLES they have. */
        int renameBoth(Term s, Term t, byte[] to) {
            forgetNames();
            for (int i = 0; i < s.size; i++) {
                to[i] = (byte) rename(s.code[i]);
            }
            for (int i = 0; i < t.size; i++) {
                to[s.size + i] = (byte) rename(t.code[i]);
            }
            return names;
        }

        /** A line more, and how it is made from the one ahead of it. */
        void addLine(Equation e, byte[] code, int start, int size, int by, int forth, int place) {
            if (used + HEAD + size > row.length) {
                row = Arrays.copyOf(row, 2 * row.length + HEAD + size);
            }
            if (e.lines == 0) {
                e.proofAt = used;
            }
            e.lines++;
            row[used] = (byte) by;
            row[used + 1] = (byte) forth;
            row[used + 2] = (byte) place;
            row[used + 3] = (byte) size;
            used += HEAD;
            for (int i = 0; i < size; i++) {
                row[used] = (byte) rename(code[start + i]);
                used++;
            }
        }

        int find(Equation e, int line) {
            int at = e.proofAt;
            for (int n = 0; n < line && at + HEAD <= used; n++) {
                at += HEAD + row[at + 3];
            }
            return at;
        }

        int head(int at, int what) {
            return row[at + what] & 255;
        }

        int codeOf(int at, int i) {
            return i < row[at + 3] ? row[at + HEAD + i] : LACKING;
        }
    }

    /** The STEPS, and all that they make. */
    private static final class Completion {
        final Shelf shelf = new Shelf();
        final Proofs proofs = new Proofs();
        final Reducer reducer;
        final Overlaps overlaps;
        final Trace left = new Trace();
        final Trace right = new Trace();
        final int[] tally = new int[TALLY_CAME + 1];
        int steps;
        private final Language language;
        private final int[] keptTally = new int[TALLY_CAME + 1];
        private int keptSteps;
        private int keptProofs;
        private final int[] others = new int[ACTIVES];
        private final Term before = new Term(CODES);
        private final Term after = new Term(CODES);
        private final Term unchanged = new Term(CODES);
        private final Term both = new Term(2 * CODES);
        private final byte[] straight = new byte[2 * CODES];
        private final byte[] crossed = new byte[2 * CODES];

        Completion(Language language) {
            this.language = language;
            reducer = new Reducer(language, shelf);
            overlaps = new Overlaps(language, shelf);
        }

        /** All anew, with the axioms of the language. */
        void begin() {
            shelf.begin();
            proofs.begin();
            steps = 0;
            Arrays.fill(tally, 0);
            for (int k = 0; k < language.axioms; k++) {
                Term s = language.axiomSide(k, 0);
                Term t = language.axiomSide(k, 1);
                Equation e = create(s, t, AXIOM, WAITING);
                proofs.addLine(e, s.code, 0, s.size, 0, 0, 0);
                proofs.addLine(e, t.code, 0, t.size, k, 1, 0);
                e.length = 1;
                e.sources = 1 << k;
            }
        }

        boolean finished() {
            return !shelf.full && shelf.howMany(WAITING) == 0;
        }

        boolean goesOn() {
            return !shelf.full && shelf.howMany(WAITING) > 0;
        }

        void save() {
            shelf.keep();
            System.arraycopy(tally, 0, keptTally, 0, tally.length);
            keptSteps = steps;
            keptProofs = proofs.used;
        }

        void restore() {
            shelf.bringBack();
            System.arraycopy(keptTally, 0, tally, 0, tally.length);
            steps = keptSteps;
            proofs.used = keptProofs;
        }

        /** The EQUATION that this STEP picks; -2 if none WAITS. */
        int pick(int number) {
            boolean byAge = number % Math.max(1, language.ratio) == 0;
            int best = LACKING;
            for (int k = 0; k < shelf.count; k++) {
                Equation e = shelf.equations[k];
                if (e.state != WAITING) {
                    continue;
                }
                if (best < 0 || !byAge && e.all < shelf.equations[best].all) {
                    best = k;
                }
            }
            return best;
        }

        private void load(Term to, int k, int side) {
            Equation e = shelf.equations[k];
            to.take(e.code, e.from(side), e.till(side), language.arity);
        }

        /** NORMAL FORMS of two TERMS, in the traces left and right: whether they are alike. */
        boolean joins(Term s, Term t) {
            left.last.take(s);
            reducer.normalForm(left, NONE);
            right.last.take(t);
            reducer.normalForm(right, NONE);
            return left.last.alike(right.last);
        }

        boolean meets(int g) {
            return joins(language.goalSide(g, 0), language.goalSide(g, 1));
        }

        int goalsThatMeet() {
            int many = 0;
            for (int g = 0; g < language.goals; g++) {
                if (meets(g)) {
                    many++;
                }
            }
            return many;
        }

        int sourcesOf(Trace trace) {
            int sources = 0;
            for (int n = 1; n < trace.lines; n++) {
                sources |= shelf.equations[trace.by[n]].sources;
            }
            return sources;
        }

        /** The caller has asked for room. */
        private Equation create(Term s, Term t, int origin, int state) {
            int k = shelf.count;
            Equation e = shelf.equations[k];
            shelf.count++;
            e.variables = proofs.renameBoth(s, t, e.code);
            e.left = s.size;
            e.all = s.size + t.size;
            e.ways = language.greater(s, 0, t, 0) ? 1 : language.greater(t, 0, s, 0) ? 2 : BOTH_WAYS;
            e.state = state;
            e.origin = origin;
            e.why = WHY_TAKEN_UP;
            e.born = steps;
            e.depth = 0;
            e.length = 0;
            e.sources = 0;
            e.lines = 0;
            Arrays.fill(e.used, 0L);
            if (e.isActive()) {
                shelf.activate(k);
            }
            return e;
        }

        private void cite(Equation e, byte[] code, int start, int size, int by, int forth, int place) {
            proofs.addLine(e, code, start, size, by, forth, place);
            e.cite(by, shelf.equations[by]);
        }

        void runStep() {
            steps++;
            int picked = pick(steps);
            if (picked < 0) {
                return;
            }
            load(before, picked, 0);
            load(after, picked, 1);
            if (joins(before, after)) {
                shelf.drop(picked, WHY_JOINED);
                tally[TALLY_JOINED]++;
                return;
            }
            if (isSubsumed(left.last, right.last) || isSubsumed(right.last, left.last)) {
                shelf.drop(picked, WHY_SUBSUMED);
                tally[TALLY_SUBSUMED]++;
                return;
            }
            shelf.drop(picked, WHY_TAKEN_UP);
            if (!shelf.hasRoom(true)) {
                return;
            }
            int taken = shelf.count;
            takeUp(picked);
            simplifyBy(taken);
            if (!shelf.full) {
                makePairs(taken);
            }
        }

        /** Whether s, t are what TERMS put for VARIABLES make of LEFT, RIGHT of an ACTIVE one. */
        private boolean isSubsumed(Term s, Term t) {
            both.size = 0;
            both.addAll(s.code, 0, s.size);
            both.addAll(t.code, 0, t.size);
            both.close(language.arity);
            for (int a = 0; a < shelf.actives; a++) {
                Equation e = shelf.equations[shelf.active[a]];
                if (reducer.fits(e, 0, e.all, both, 0)) {
                    return true;
                }
            }
            return false;
        }

        /** The traces hold the NORMAL FORMS of the sides of the one that was picked. */
        private void takeUp(int picked) {
            boolean turned = language.greater(right.last, 0, left.last, 0);
            Trace from = turned ? right : left;
            Trace to = turned ? left : right;
            Equation e = create(from.last, to.last, TAKEN_UP, WAITING);
            e.state = e.ways == 1 ? RULE : FLAT;
            shelf.activate(shelf.count - 1);
            int n = from.lines - 1;
            proofs.addLine(e, from.code, n * CODES, from.sizes[n], 0, 0, 0);
            for (; n > 0; n--) {
                cite(e, from.code, (n - 1) * CODES, from.sizes[n - 1], from.by[n], from.way[n], from.place[n]);
            }
            cite(e, to.code, 0, to.sizes[0], picked, turned ? 0 : 1, 0);
            follow(e, to);
        }

        /** Lines forth through the steps of a trace. */
        private void follow(Equation e, Trace trace) {
            for (int n = 1; n < trace.lines; n++) {
                cite(e, trace.code, n * CODES, trace.sizes[n], trace.by[n], 1 - trace.way[n], trace.place[n]);
            }
        }

        /** (c): what the new one reduces of those that were ACTIVE ahead of it. */
        private void simplifyBy(int taken) {
            int many = 0;
            for (int a = 0; a < shelf.actives; a++) {
                if (shelf.active[a] != taken) {
                    others[many] = shelf.active[a];
                    many++;
                }
            }
            for (int n = 0; n < many && !shelf.full; n++) {
                int k = others[n];
                Equation e = shelf.equations[k];
                if (reducesSide(k, 0, taken)) {
                    collapse(k, 0, taken);
                } else if (reducesSide(k, 1, taken)) {
                    if (e.state == FLAT) {
                        collapse(k, 1, taken);
                    } else {
                        compose(k);
                    }
                }
            }
        }

        /** Leaves that side as it was in before, REDUCED in after. */
        private boolean reducesSide(int k, int side, int taken) {
            load(before, k, side);
            load(after, k, side);
            return reducer.reduceOnce(after, taken, NONE);
        }

        private void collapse(int k, int side, int taken) {
            if (!shelf.hasRoom(false)) {
                return;
            }
            int place = reducer.place;
            int way = reducer.way;
            shelf.drop(k, WHY_COLLAPSED);
            tally[TALLY_COLLAPSED]++;
            load(unchanged, k, 1 - side);
            if (side == 0) {
                Equation e = create(after, unchanged, COLLAPSED, WAITING);
                proofs.addLine(e, after.code, 0, after.size, 0, 0, 0);
                cite(e, before.code, 0, before.size, taken, way, place);
                cite(e, unchanged.code, 0, unchanged.size, k, 1, 0);
            } else {
                Equation e = create(unchanged, after, COLLAPSED, WAITING);
                proofs.addLine(e, unchanged.code, 0, unchanged.size, 0, 0, 0);
                cite(e, before.code, 0, before.size, k, 1, 0);
                cite(e, after.code, 0, after.size, taken, 1 - way, place);
            }
        }

        private void compose(int k) {
            if (!shelf.hasRoom(true)) {
                return;
            }
            right.last.take(before);
            reducer.normalForm(right, k);
            shelf.drop(k, WHY_COMPOSED);
            tally[TALLY_COMPOSED]++;
            load(unchanged, k, 0);
            Equation e = create(unchanged, right.last, COMPOSED, RULE);
            proofs.addLine(e, unchanged.code, 0, unchanged.size, 0, 0, 0);
            cite(e, right.code, 0, right.sizes[0], k, 1, 0);
            follow(e, right);
        }

        /** (d): of the new one by each ACTIVE one, then the other way. */
        private void makePairs(int taken) {
            for (int n = 0; n < 2 * shelf.actives && !shelf.full; n++) {
                int a = shelf.active[n >> 1];
                if (n % 2 == 0) {
                    overlaps.begin(taken, a);
                } else if (a != taken) {
                    overlaps.begin(a, taken);
                } else {
                    continue;
                }
                for (int k = 0; k < Overlaps.MANY && !shelf.full && overlaps.advance(); k++) {
                    if (overlaps.tooBig()) {
                        tally[TALLY_TOO_BIG]++;
                    } else if (connected()) {
                        tally[TALLY_CONNECTED]++;
                    } else if (joins(overlaps.first, overlaps.second)) {
                        tally[TALLY_MET]++;
                    } else if (isTwice()) {
                        tally[TALLY_TWICE]++;
                    } else if (shelf.hasRoom(false)) {
                        keepPair();
                    }
                }
            }
        }

        /** Whether a RULE's LEFT fits below the PLACE of the OVERLAP in PEAK. */
        boolean connected() {
            Term peak = overlaps.peak;
            for (int p = overlaps.peakPlace + 1; p < peak.end[overlaps.peakPlace]; p++) {
                for (int a = 0; a < shelf.actives; a++) {
                    Equation e = shelf.equations[shelf.active[a]];
                    if (e.state == RULE && e.code[0] == peak.code[p] && reducer.fits(e, 0, e.left, peak, p)) {
                        return true;
                    }
                }
            }
            return false;
        }

        /** How many CRITICAL PAIRS are open (0), there at all (1), CONNECTED (2). */
        int openPairs(int x, int y, int what) {
            int found = 0;
            overlaps.begin(x, y);
            for (int k = 0; k < Overlaps.MANY && overlaps.advance(); k++) {
                if (overlaps.tooBig()) {
                    continue;
                }
                if (what == 1 || what == 2 && connected() || what == 0 && !joins(overlaps.first, overlaps.second)) {
                    found++;
                }
            }
            return found;
        }

        private boolean isTwice() {
            Term s = overlaps.first;
            Term t = overlaps.second;
            proofs.renameBoth(s, t, straight);
            proofs.renameBoth(t, s, crossed);
            for (int k = 0; k < shelf.count; k++) {
                Equation e = shelf.equations[k];
                if (e.state == GONE || e.all != s.size + t.size) {
                    continue;
                }
                boolean same = e.left == s.size;
                boolean other = e.left == t.size;
                for (int i = 0; i < e.all && (same || other); i++) {
                    same = same && e.code[i] == straight[i];
                    other = other && e.code[i] == crossed[i];
                }
                if (same || other) {
                    return true;
                }
            }
            return false;
        }

        private void keepPair() {
            Term s = overlaps.first;
            Term t = overlaps.second;
            Term peak = overlaps.peak;
            Equation e = create(s, t, PAIR, WAITING);
            proofs.addLine(e, s.code, 0, s.size, 0, 0, 0);
            cite(e, peak.code, 0, peak.size, overlaps.y, overlaps.wayY(), overlaps.peakPlace);
            cite(e, t.code, 0, t.size, overlaps.x, 1 - overlaps.wayX(), 0);
            tally[TALLY_CAME]++;
        }
    }
}
