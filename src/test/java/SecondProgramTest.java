import java.util.ArrayList;
import java.util.Arrays;
import java.util.HashMap;
import java.util.HashSet;
import java.util.List;
import java.util.Map;
import java.util.NoSuchElementException;
import java.util.Set;
import java.util.TreeMap;

/**
 * A second program, written from the document alone on TERMS as trees, in the plainest form; both answer the same
 * runs of calls, which a counter makes. More of them: java SecondProgramTest FIRST_RUN RUNS.
 */
public final class SecondProgramTest {
    private static final int NONE = -1;
    private static final int MOST_CODES = 60;
    private static final int IOOBE = -1001;
    private static final int NSEE = -1002;

    private static final class Fault extends RuntimeException {
        private static final long serialVersionUID = 1L;
        final int which;
        final int place;

        Fault(int which, int place) {
            this.which = which;
            this.place = place;
        }
    }

    /** A SIGN with what is below it, or a VARIABLE: 100 and more. */
    private static final class Term {
        final int code;
        final Term[] below;
        final int size;

        Term(int code, Term... below) {
            this.code = code;
            this.below = below;
            int all = 1;
            for (Term t : below) {
                all += t.size;
            }
            size = all;
        }

        boolean isVariable() {
            return code >= 100;
        }

        void codes(List<Integer> to) {
            to.add(code);
            for (Term t : below) {
                t.codes(to);
            }
        }

        List<Integer> codes() {
            List<Integer> all = new ArrayList<>();
            codes(all);
            return all;
        }

        Term at(int place) {
            if (place == 0) {
                return this;
            }
            int rest = place - 1;
            for (Term t : below) {
                if (rest < t.size) {
                    return t.at(rest);
                }
                rest -= t.size;
            }
            throw new IllegalStateException();
        }

        Term with(int place, Term there) {
            if (place == 0) {
                return there;
            }
            Term[] all = below.clone();
            int rest = place - 1;
            for (int i = 0; i < all.length; i++) {
                if (rest < all[i].size) {
                    all[i] = all[i].with(rest, there);
                    return new Term(code, all);
                }
                rest -= all[i].size;
            }
            throw new IllegalStateException();
        }

        boolean same(Term o) {
            return codes().equals(o.codes());
        }

        Term higher(int by) {
            Term[] all = new Term[below.length];
            for (int i = 0; i < all.length; i++) {
                all[i] = below[i].higher(by);
            }
            return new Term(isVariable() ? code + by : code, all);
        }

        Term named(Map<Integer, Integer> names) {
            if (isVariable()) {
                names.putIfAbsent(code, 100 + names.size());
                return new Term(names.get(code));
            }
            Term[] all = new Term[below.length];
            for (int i = 0; i < all.length; i++) {
                all[i] = below[i].named(names);
            }
            return new Term(code, all);
        }

        Set<Integer> variables() {
            Set<Integer> all = new HashSet<>();
            for (int c : codes()) {
                if (c >= 100) {
                    all.add(c);
                }
            }
            return all;
        }

        int often(int variable) {
            int n = 0;
            for (int c : codes()) {
                if (c == variable) {
                    n++;
                }
            }
            return n;
        }

        Term put(Map<Integer, Term> terms) {
            if (isVariable()) {
                Term t = terms.get(code);
                return t == null ? this : t;
            }
            Term[] all = new Term[below.length];
            for (int i = 0; i < all.length; i++) {
                all[i] = below[i].put(terms);
            }
            return new Term(code, all);
        }
    }

    private static boolean fits(Term pattern, Term t, Map<Integer, Term> terms) {
        if (pattern.isVariable()) {
            Term before = terms.putIfAbsent(pattern.code, t);
            return before == null || before.same(t);
        }
        if (pattern.code != t.code) {
            return false;
        }
        for (int i = 0; i < pattern.below.length; i++) {
            if (!fits(pattern.below[i], t.below[i], terms)) {
                return false;
            }
        }
        return true;
    }

    /** What VARIABLES become, each by one TERM in which others may stand that become something themselves. */
    private static final class Most {
        final Map<Integer, Term> terms = new HashMap<>();

        Term root(Term t) {
            while (t.isVariable() && terms.containsKey(t.code)) {
                t = terms.get(t.code);
            }
            return t;
        }

        boolean unify(Term s, Term t) {
            s = root(s);
            t = root(t);
            if (s.isVariable() && t.isVariable() && s.code == t.code) {
                return true;
            }
            if (s.isVariable() && (!t.isVariable() || t.code < s.code)) {
                return bind(s, t);
            }
            if (t.isVariable()) {
                return bind(t, s);
            }
            if (s.code != t.code) {
                return false;
            }
            for (int i = 0; i < s.below.length; i++) {
                if (!unify(s.below[i], t.below[i])) {
                    return false;
                }
            }
            return true;
        }

        private boolean bind(Term variable, Term t) {
            if (!t.isVariable() && stands(variable.code, t, new HashSet<>())) {
                return false;
            }
            terms.put(variable.code, t);
            return true;
        }

        private boolean stands(int variable, Term t, Set<Integer> seen) {
            t = root(t);
            if (t.isVariable()) {
                return t.code == variable;
            }
            for (Term u : t.below) {
                if (u.isVariable() && !seen.add(u.code)) {
                    continue;
                }
                if (stands(variable, u, seen)) {
                    return true;
                }
            }
            return false;
        }

        long size(Term t, Map<Integer, Long> known) {
            Term r = root(t);
            if (r.isVariable()) {
                return 1;
            }
            if (t.isVariable() && known.containsKey(t.code)) {
                return known.get(t.code);
            }
            long all = 1;
            for (Term u : r.below) {
                all += size(u, known);
            }
            all = Math.min(all, 1000000);
            if (t.isVariable()) {
                known.put(t.code, all);
            }
            return all;
        }

        /** null, if it has more than 60 CODES. */
        Term become(Term t) {
            return size(t, new HashMap<>()) > MOST_CODES ? null : all(t);
        }

        private Term all(Term t) {
            t = root(t);
            Term[] below = new Term[t.below.length];
            for (int i = 0; i < below.length; i++) {
                below[i] = all(t.below[i]);
            }
            return new Term(t.code, below);
        }
    }

    private static final class Line {
        final Term term;
        final int by;
        final int place;
        final int how;

        Line(Term term, int by, int place, int how) {
            this.term = term;
            this.by = by;
            this.place = place;
            this.how = how;
        }
    }

    private static final class Eq {
        int number;
        Term left;
        Term right;
        int state;
        int origin;
        int why = -2;
        int born;
        int depth;
        long length;
        int sources;
        List<Line> proof;
        Set<Integer> uses = new HashSet<>();

        Term side(int which) {
            return which == 0 ? left : right;
        }

        boolean isActive() {
            return state == 1 || state == 2;
        }
    }

    private static final class Pair {
        int wayX;
        int wayY;
        int place;
        int peakPlace;
        Term peak;
        Term first;
        Term second;

        int codes(Term t) {
            return t == null ? 61 : t.size;
        }
    }

    private static final class Token {
        final String text;
        final int kind;
        final int place;

        Token(String text, int kind, int place) {
            this.text = text;
            this.kind = kind;
            this.place = place;
        }
    }

    /** TOKENS: w a word, n a number, ? none, $ the end, else the mark itself. */
    private static final class Parser {
        final List<Token> tokens = new ArrayList<>();
        final List<String> variables = new ArrayList<>();
        int at;
        int codes;

        Parser(List<Integer> bytes, int n) {
            int i = 0;
            while (i < n) {
                int c = bytes.get(i);
                int from = i;
                if (c == 10 || c == 32) {
                    i++;
                } else if (c >= 'a' && c <= 'z') {
                    StringBuilder w = new StringBuilder();
                    while (i < n && bytes.get(i) >= 'a' && bytes.get(i) <= 'z') {
                        w.append((char) (int) bytes.get(i++));
                    }
                    tokens.add(new Token(w.toString(), w.length() > 6 ? '?' : 'w', from));
                } else if (c >= '0' && c <= '9') {
                    StringBuilder w = new StringBuilder();
                    while (i < n && bytes.get(i) >= '0' && bytes.get(i) <= '9') {
                        w.append((char) (int) bytes.get(i++));
                    }
                    tokens.add(new Token(w.toString(), 'n', from));
                } else {
                    tokens.add(new Token("", c < 128 && "();=,".indexOf(c) >= 0 ? c : '?', from));
                    i++;
                }
            }
            tokens.add(new Token("", '$', n));
        }

        Token now() {
            return tokens.get(at);
        }

        Token take(int kind) {
            Token t = now();
            if (t.kind != kind) {
                throw new Fault(1, t.place);
            }
            at++;
            return t;
        }

        int number(int least, int greatest) {
            Token t = take('n');
            String digits = t.text.replaceFirst("^0+", "");
            int value = digits.length() > 3 ? 1000 : digits.isEmpty() ? 0 : Integer.parseInt(digits);
            if (value < least || value > greatest) {
                throw new Fault(2, t.place);
            }
            return value;
        }

        String word() {
            Token t = now();
            if (t.kind != 'w' || List.of("sign", "ratio", "most", "axiom", "goal").contains(t.text)) {
                throw new Fault(1, t.place);
            }
            return t.text;
        }

        Term term(List<String> words, List<Integer> arities) {
            codes = 0;
            return part(words, arities);
        }

        private Term part(List<String> words, List<Integer> arities) {
            String w = word();
            if (++codes > 12) {
                throw new Fault(2, now().place);
            }
            int k = words.indexOf(w);
            if (k < 0) {
                if (!variables.contains(w)) {
                    if (variables.size() == 6) {
                        throw new Fault(2, now().place);
                    }
                    variables.add(w);
                }
                at++;
                return new Term(100 + variables.indexOf(w));
            }
            at++;
            Term[] below = new Term[arities.get(k)];
            for (int i = 0; i < below.length; i++) {
                take(i == 0 ? '(' : ',');
                below[i] = part(words, arities);
            }
            if (below.length > 0) {
                take(')');
            }
            return new Term(k, below);
        }
    }

    private static final class Second {
        final List<Integer> tape = new ArrayList<>();
        int fault;
        int place = NONE;
        List<String> words = new ArrayList<>();
        List<Integer> arities = new ArrayList<>();
        List<Integer> weights = new ArrayList<>();
        List<Term[]> axioms = new ArrayList<>();
        List<Term[]> goals = new ArrayList<>();
        int ratio = 4;
        int most = 20;
        List<Eq> eqs = new ArrayList<>();
        int steps;
        boolean full;
        int[] tally = new int[24];
        List<Line> told;
        Term met;

        int feed(int... n) {
            if (tape.size() + 20 > 900) {
                return NONE;
            }
            for (int a : n) {
                for (int shift = 24; shift >= 0; shift -= 8) {
                    tape.add(a >>> shift & 255);
                }
            }
            return tape.size();
        }

        private void drop(int n) {
            tape.subList(0, n).clear();
        }

        private boolean lacks(int n) {
            return n < 0 || n > tape.size();
        }

        private void failed(Fault f) {
            fault = f.which;
            place = f.place;
        }

        private void fine() {
            fault = 0;
            place = NONE;
        }

        int text(int n) {
            if (lacks(n)) {
                return -2;
            }
            Second anew = new Second();
            int lines = 0;
            try {
                lines = anew.read(new Parser(tape, n));
            } catch (Fault f) {
                failed(f);
                tape.clear();
                return NONE;
            }
            tape.clear();
            fine();
            words = anew.words;
            arities = anew.arities;
            weights = anew.weights;
            axioms = anew.axioms;
            goals = anew.goals;
            ratio = anew.ratio;
            most = anew.most;
            eqs = new ArrayList<>();
            steps = 0;
            full = false;
            tally = new int[24];
            told = null;
            met = null;
            for (int k = 0; k < axioms.size(); k++) {
                Term[] a = axioms.get(k);
                Eq e = make(a[0], a[1], 0, 0, List.of(new Line(a[0], 0, 0, 0), new Line(a[1], k, 0, 1)));
                e.depth = 0;
                e.length = 1;
                e.sources = 1 << k;
                e.uses.clear();
            }
            return lines;
        }

        private int read(Parser p) {
            int lines = 0;
            boolean ratioTold = false;
            boolean mostTold = false;
            while (p.now().kind != '$') {
                Token head = p.take('w');
                boolean late = axioms.size() + goals.size() > 0;
                p.variables.clear();
                switch (head.text) {
                    case "sign":
                        deny(late, 1, head);
                        deny(words.size() == 8, 2, head);
                        String w = p.word();
                        deny(words.contains(w), 3, p.now());
                        p.at++;
                        words.add(w);
                        arities.add(p.number(0, 3));
                        weights.add(p.number(1, 9));
                        break;
                    case "ratio":
                        deny(late, 1, head);
                        deny(ratioTold, 3, head);
                        ratio = p.number(1, 9);
                        ratioTold = true;
                        break;
                    case "most":
                        deny(late, 1, head);
                        deny(mostTold, 3, head);
                        most = p.number(8, 30);
                        mostTold = true;
                        break;
                    case "axiom":
                        deny(axioms.size() == 8, 2, head);
                        axioms.add(two(p));
                        break;
                    case "goal":
                        deny(goals.size() == 4, 2, head);
                        goals.add(two(p));
                        break;
                    default:
                        deny(true, 1, head);
                }
                p.take(';');
                lines++;
            }
            return lines;
        }

        private static void deny(boolean when, int which, Token where) {
            if (when) {
                throw new Fault(which, where.place);
            }
        }

        private Term[] two(Parser p) {
            Term s = p.term(words, arities);
            p.take('=');
            return new Term[] {s, p.term(words, arities)};
        }

        private Term[] alone(int n, boolean isTwo) {
            Parser p = new Parser(tape, n);
            drop(n);
            try {
                Term[] all = isTwo ? two(p) : new Term[] {p.term(words, arities)};
                p.take('$');
                fine();
                return all;
            } catch (Fault f) {
                failed(f);
                return null;
            }
        }

        int fault(int what) {
            return what == 0 ? fault : what == 1 ? place : NONE;
        }

        // ---- the order

        private int weight(Term t, List<Integer> by) {
            int all = 0;
            for (int c : t.codes()) {
                all += c >= 100 ? 1 : by.get(c);
            }
            return all;
        }

        private boolean greater(Term s, Term t) {
            return greater(s, t, weights, false);
        }

        private boolean greater(Term s, Term t, List<Integer> by, boolean turned) {
            for (int v : t.variables()) {
                if (t.often(v) > s.often(v)) {
                    return false;
                }
            }
            int more = weight(s, by) - weight(t, by);
            if (more != 0) {
                return more > 0;
            }
            if (s.isVariable() || t.isVariable()) {
                return false;
            }
            if (s.code != t.code) {
                return turned ? s.code < t.code : s.code > t.code;
            }
            for (int i = 0; i < s.below.length; i++) {
                if (!s.below[i].same(t.below[i])) {
                    return greater(s.below[i], t.below[i], by, turned);
                }
            }
            return false;
        }

        private int unturned(List<Integer> by, boolean turned) {
            int n = 0;
            for (Term[] a : axioms) {
                if (!greater(a[0], a[1], by, turned) && !greater(a[1], a[0], by, turned)) {
                    n++;
                }
            }
            return n;
        }

        // ---- reducing

        private List<Eq> actives() {
            List<Eq> all = new ArrayList<>();
            for (Eq e : eqs) {
                if (e.isActive()) {
                    all.add(e);
                }
            }
            return all;
        }

        private Term reduced(Term whole, int at, Eq e, int way) {
            Term there = whole.at(at);
            Map<Integer, Term> terms = new HashMap<>();
            if (!fits(e.side(way), there, terms) || !terms.keySet().containsAll(e.side(1 - way).variables())) {
                return null;
            }
            Term becomes = e.side(1 - way).put(terms);
            if (e.state == 2 && !greater(there, becomes)) {
                return null;
            }
            return whole.size - there.size + becomes.size > MOST_CODES ? null : whole.with(at, becomes);
        }

        private Line once(Term t, List<Eq> by) {
            for (int at = 0; at < t.size; at++) {
                for (Eq e : by) {
                    for (int way = 0; way < e.state; way++) {
                        Term r = reduced(t, at, e, way);
                        if (r != null) {
                            return new Line(r, e.number, at, way);
                        }
                    }
                }
            }
            return null;
        }

        private List<Line> normalForm(Term t, List<Eq> by) {
            List<Line> lines = new ArrayList<>();
            lines.add(new Line(t, -2, -2, -2));
            for (int n = 0; n < 30; n++) {
                Line next = once(last(lines), by);
                if (next == null) {
                    break;
                }
                lines.add(next);
            }
            return lines;
        }

        private static Term last(List<Line> lines) {
            return lines.get(lines.size() - 1).term;
        }

        private boolean joins(Term s, Term t) {
            List<Eq> by = actives();
            return last(normalForm(s, by)).same(last(normalForm(t, by)));
        }

        // ---- making

        private boolean roomFor(boolean active) {
            if (eqs.size() == 201 || active && actives().size() == 24) {
                full = true;
            }
            return !full;
        }

        /** Lines: the TERM, and of all but the first by which, where, forth (1) or back (0). */
        private Eq make(Term left, Term right, int state, int origin, List<Line> lines) {
            Map<Integer, Integer> names = new HashMap<>();
            Eq e = new Eq();
            e.number = eqs.size();
            e.left = left.named(names);
            e.right = right.named(names);
            e.state = state;
            e.origin = origin;
            e.born = steps;
            e.proof = new ArrayList<>();
            for (Line l : lines) {
                e.proof.add(new Line(l.term.named(names), l.by, l.place, l.how));
            }
            if (origin != 0) {
                for (Line l : lines.subList(1, lines.size())) {
                    Eq u = eqs.get(l.by);
                    e.depth = Math.max(e.depth, u.depth + 1);
                    e.length = Math.min(1000000000, e.length + u.length);
                    e.sources |= u.sources;
                    e.uses.add(u.number);
                    e.uses.addAll(u.uses);
                }
            }
            eqs.add(e);
            return e;
        }

        private static void gone(Eq e, int why) {
            e.state = 3;
            e.why = why;
        }

        private Eq pick(int step) {
            Eq best = null;
            for (Eq e : eqs) {
                if (e.state != 0) {
                    continue;
                }
                boolean less = best != null && step % ratio != 0
                        && e.left.size + e.right.size < best.left.size + best.right.size;
                if (best == null || less) {
                    best = e;
                }
            }
            return best;
        }

        private void doStep() {
            steps++;
            Eq p = pick(steps);
            List<Line> l = normalForm(p.left, actives());
            List<Line> r = normalForm(p.right, actives());
            if (last(l).same(last(r))) {
                gone(p, 1);
                tally[11]++;
                return;
            }
            for (Eq e : actives()) {
                if (instance(e, last(l), last(r)) || instance(e, last(r), last(l))) {
                    gone(p, 2);
                    tally[12]++;
                    return;
                }
            }
            gone(p, 0);
            if (!roomFor(true)) {
                return;
            }
            Eq one = takenUp(p, l, r);
            for (Eq e : actives()) {
                if (e != one && !full) {
                    meetNew(e, one);
                }
            }
            for (Eq a : actives()) {
                pairs(one, a);
                if (a != one) {
                    pairs(a, one);
                }
            }
        }

        private static boolean instance(Eq e, Term s, Term t) {
            Map<Integer, Term> terms = new HashMap<>();
            return fits(e.left, s, terms) && fits(e.right, t, terms);
        }

        private Eq takenUp(Eq p, List<Line> l, List<Line> r) {
            boolean turn = greater(last(r), last(l));
            boolean rule = turn || greater(last(l), last(r));
            List<Line> from = turn ? r : l;
            List<Line> to = turn ? l : r;
            List<Line> lines = new ArrayList<>();
            lines.add(new Line(last(from), 0, 0, 0));
            for (int n = from.size() - 1; n > 0; n--) {
                Line made = from.get(n);
                lines.add(new Line(from.get(n - 1).term, made.by, made.place, made.how == 0 ? 0 : 1));
            }
            lines.add(new Line(to.get(0).term, p.number, 0, turn ? 0 : 1));
            forth(to, lines);
            return make(last(from), last(to), rule ? 1 : 2, 2, lines);
        }

        private static void forth(List<Line> steps, List<Line> to) {
            for (Line made : steps.subList(1, steps.size())) {
                to.add(new Line(made.term, made.by, made.place, made.how == 0 ? 1 : 0));
            }
        }

        private void meetNew(Eq e, Eq one) {
            List<Eq> by = List.of(one);
            Line l = once(e.left, by);
            Line r = once(e.right, by);
            if (l != null) {
                if (roomFor(false)) {
                    gone(e, 3);
                    tally[13]++;
                    make(l.term, e.right, 0, 3, List.of(new Line(l.term, 0, 0, 0),
                            new Line(e.left, one.number, l.place, l.how), new Line(e.right, e.number, 0, 1)));
                }
            } else if (r != null && e.state == 2) {
                if (roomFor(false)) {
                    gone(e, 3);
                    tally[13]++;
                    make(e.left, r.term, 0, 3, List.of(new Line(e.left, 0, 0, 0),
                            new Line(e.right, e.number, 0, 1), new Line(r.term, one.number, r.place, 1 - r.how)));
                }
            } else if (r != null && roomFor(true)) {
                List<Eq> others = actives();
                others.remove(e);
                List<Line> steps = normalForm(e.right, others);
                gone(e, 4);
                tally[14]++;
                List<Line> lines = new ArrayList<>();
                lines.add(new Line(e.left, 0, 0, 0));
                lines.add(new Line(e.right, e.number, 0, 1));
                forth(steps, lines);
                make(e.left, last(steps), 1, 4, lines);
            }
        }

        // ---- OVERLAPS

        private List<Integer> ways(Eq e) {
            return greater(e.left, e.right) ? List.of(0) : greater(e.right, e.left) ? List.of(1) : List.of(0, 1);
        }

        private List<Pair> overlapsOf(Eq x, Eq y) {
            List<Pair> all = new ArrayList<>();
            for (int wx : ways(x)) {
                for (int wy : ways(y)) {
                    for (int at = 0; at < x.side(wx).size; at++) {
                        if (x.side(wx).at(at).isVariable() || at == 0 && x == y && wx == wy) {
                            continue;
                        }
                        Pair p = overlapAt(x, y, wx, wy, at);
                        if (p != null) {
                            all.add(p);
                        }
                    }
                }
            }
            return all;
        }

        private Pair overlapAt(Eq x, Eq y, int wx, int wy, int at) {
            Most most = new Most();
            Term from = x.side(wx);
            Term yFrom = y.side(wy).higher(1000);
            Term yTo = y.side(1 - wy).higher(1000);
            if (!most.unify(from.at(at), yFrom)) {
                return null;
            }
            Pair p = new Pair();
            p.wayX = wx;
            p.wayY = wy;
            p.place = at;
            p.peak = most.become(from);
            p.first = most.become(from.with(at, yTo));
            p.second = most.become(x.side(1 - wx));
            if (p.peak == null || p.first == null || p.second == null) {
                return p;
            }
            for (int c : from.codes().subList(0, at)) {
                p.peakPlace += c < 100 ? 1 : most.become(new Term(c)).size;
            }
            boolean climbs = greater(p.second, p.peak) || greater(most.become(yTo), most.become(yFrom));
            return climbs ? null : p;
        }

        private boolean tooBig(Pair p) {
            if (p.codes(p.peak) > most || p.codes(p.first) > most || p.codes(p.second) > most) {
                return true;
            }
            Set<Integer> all = p.peak.variables();
            all.addAll(p.first.variables());
            all.addAll(p.second.variables());
            return all.size() > 12;
        }

        private boolean connected(Pair p) {
            Term there = p.peak.at(p.peakPlace);
            for (int at = 1; at < there.size; at++) {
                for (Eq e : actives()) {
                    if (e.state == 1 && fits(e.left, there.at(at), new HashMap<>())) {
                        return true;
                    }
                }
            }
            return false;
        }

        private static String shown(Term s, Term t) {
            Map<Integer, Integer> names = new HashMap<>();
            return s.named(names).codes() + " " + t.named(names).codes();
        }

        private boolean twice(Pair p) {
            String straight = shown(p.first, p.second);
            String crossed = shown(p.second, p.first);
            for (Eq e : eqs) {
                String own = shown(e.left, e.right);
                if (e.state != 3 && (own.equals(straight) || own.equals(crossed))) {
                    return true;
                }
            }
            return false;
        }

        private void pairs(Eq x, Eq y) {
            if (full) {
                return;
            }
            for (Pair p : overlapsOf(x, y)) {
                if (tooBig(p)) {
                    tally[15]++;
                } else if (connected(p)) {
                    tally[16]++;
                } else if (joins(p.first, p.second)) {
                    tally[17]++;
                } else if (twice(p)) {
                    tally[18]++;
                } else if (roomFor(false)) {
                    tally[19]++;
                    make(p.first, p.second, 0, 1, List.of(new Line(p.first, 0, 0, 0),
                            new Line(p.peak, y.number, p.peakPlace, p.wayY == 0 ? 0 : 1),
                            new Line(p.second, x.number, 0, p.wayX == 0 ? 1 : 0)));
                } else {
                    return;
                }
            }
        }

        // ---- what is asked

        private int inStateCount(int state) {
            int n = 0;
            for (Eq e : eqs) {
                if (e.state == state) {
                    n++;
                }
            }
            return n;
        }

        private boolean finished() {
            return inStateCount(0) == 0 && !full;
        }

        int step(int n) {
            if (n < 1 || n > 20) {
                return NONE;
            }
            if (full) {
                return -2;
            }
            int done = 0;
            while (done < n && !full && !finished()) {
                doStep();
                done++;
            }
            return done;
        }

        private boolean no(int k) {
            return k < 0 || k >= eqs.size();
        }

        int equation(int k, int what) {
            if (no(k)) {
                return IOOBE;
            }
            Eq e = eqs.get(k);
            Set<Integer> names = e.left.variables();
            names.addAll(e.right.variables());
            int[] all = {e.state, e.left.size + e.right.size, e.origin, e.why, e.proof.size(), e.depth, (int) e.length,
                e.sources, e.born, names.size()};
            return what < 0 || what >= all.length ? NSEE : all[what];
        }

        private static int codeOf(Term t, int i) {
            return i < t.size ? t.codes().get(i) : -2;
        }

        int code(int k, int side, int i) {
            return no(k) || side < 0 || side > 1 || i < 0 ? NONE : codeOf(eqs.get(k).side(side), i);
        }

        int line(int k, int line, int i) {
            if (no(k) || line < 0 || line >= eqs.get(k).proof.size() || i < 0) {
                return NONE;
            }
            return codeOf(eqs.get(k).proof.get(line).term, i);
        }

        int by(int k, int line, int what) {
            if (no(k) || line < 1 || line >= eqs.get(k).proof.size() || what < 0 || what > 2) {
                return NONE;
            }
            Line l = eqs.get(k).proof.get(line);
            return what == 0 ? l.by : what == 1 ? l.how : l.place;
        }

        int uses(int k, int other) {
            return no(k) || no(other) ? NONE : eqs.get(k).uses.contains(other) ? 1 : 0;
        }

        int users(int k, int state) {
            if (no(k) || state < 0 || state > 3) {
                return NONE;
            }
            int n = 0;
            for (Eq e : eqs) {
                n += e.state == state && e.uses.contains(k) ? 1 : 0;
            }
            return n;
        }

        int inState(int state, int i) {
            if (state < 0 || state > 3 || i < 0) {
                return NONE;
            }
            int rest = i;
            for (Eq e : eqs) {
                if (e.state == state && rest-- == 0) {
                    return e.number;
                }
            }
            return -2;
        }

        int next() {
            Eq e = pick(steps + 1);
            return e == null ? -2 : e.number;
        }

        private boolean noGoal(int g) {
            return g < 0 || g >= goals.size();
        }

        private List<Line> goalLines(int g, int side) {
            return normalForm(goals.get(g)[side], actives());
        }

        private boolean meets(int g) {
            return joins(goals.get(g)[0], goals.get(g)[1]);
        }

        int goal(int g, int what) {
            if (noGoal(g) || what < 0 || what > 4) {
                return NONE;
            }
            if (what == 0) {
                return meets(g) ? 1 : 0;
            }
            List<Line> lines = goalLines(g, (what - 1) % 2);
            return what < 3 ? lines.size() - 1 : last(lines).size;
        }

        int goalCode(int g, int side, int i) {
            return noGoal(g) || side < 0 || side > 1 || i < 0 ? NONE : codeOf(last(goalLines(g, side)), i);
        }

        int goalSources(int g) {
            if (noGoal(g)) {
                return NONE;
            }
            if (!meets(g)) {
                return -2;
            }
            int all = 0;
            for (int side = 0; side < 2; side++) {
                List<Line> lines = goalLines(g, side);
                for (Line l : lines.subList(1, lines.size())) {
                    all |= eqs.get(l.by).sources;
                }
            }
            return all;
        }

        private Second copy() {
            Second c = new Second();
            c.words = words;
            c.arities = arities;
            c.weights = weights;
            c.axioms = axioms;
            c.goals = goals;
            c.ratio = ratio;
            c.most = most;
            c.steps = steps;
            c.full = full;
            for (Eq e : eqs) {
                Eq d = new Eq();
                d.number = e.number;
                d.left = e.left;
                d.right = e.right;
                d.state = e.state;
                d.uses = e.uses;
                c.eqs.add(d);
            }
            return c;
        }

        int meetsIn(int g) {
            if (noGoal(g)) {
                return NONE;
            }
            Second c = copy();
            for (int n = 0; n <= 40; n++) {
                if (c.meets(g)) {
                    return n;
                }
                if (c.full || c.finished()) {
                    return -2;
                }
                c.doStep();
            }
            return -2;
        }

        int normal(int n) {
            if (lacks(n)) {
                return -2;
            }
            Term[] t = alone(n, false);
            if (t == null) {
                return NONE;
            }
            told = normalForm(t[0], actives());
            return last(told).size;
        }

        int told(int line, int i) {
            if (told == null || line < 0 || i < -4 || i == -2) {
                return NONE;
            }
            if (line >= told.size()) {
                return -2;
            }
            Line l = told.get(line);
            return i >= 0 ? codeOf(l.term, i) : i == -1 ? l.by : i == -3 ? l.place : l.how;
        }

        int compare(int n) {
            if (lacks(n)) {
                return -2;
            }
            Term[] t = alone(n, true);
            if (t == null) {
                return NONE;
            }
            return t[0].same(t[1]) ? 0 : greater(t[0], t[1]) ? 1 : greater(t[1], t[0]) ? 2 : 3;
        }

        int meet(int n) {
            if (lacks(n)) {
                return -2;
            }
            Term[] t = alone(n, true);
            if (t == null) {
                return NONE;
            }
            Most m = new Most();
            met = m.unify(t[0], t[1]) ? m.become(t[0]) : null;
            return met == null ? -3 : met.size;
        }

        int met(int i) {
            return i < 0 ? NONE : met == null ? -2 : codeOf(met, i);
        }

        int overlaps(int x, int y) {
            return no(x) || no(y) ? NONE : overlapsOf(eqs.get(x), eqs.get(y)).size();
        }

        int overlap(int x, int y, int i, int what) {
            if (no(x) || no(y) || i < 0 || what < 0 || what > 6) {
                return NONE;
            }
            List<Pair> all = overlapsOf(eqs.get(x), eqs.get(y));
            if (i >= all.size()) {
                return -2;
            }
            Pair p = all.get(i);
            boolean meet = p.first != null && p.second != null && joins(p.first, p.second);
            return new int[] {p.wayX, p.wayY, p.place, p.codes(p.peak), p.codes(p.first), p.codes(p.second),
                meet ? 1 : 0}[what];
        }

        int open(int what) {
            if (what < 0 || what > 2) {
                return NONE;
            }
            int n = 0;
            for (Eq x : actives()) {
                for (Eq y : actives()) {
                    for (Pair p : overlapsOf(x, y)) {
                        if (!tooBig(p)) {
                            n += what == 1 || what == 0 && !joins(p.first, p.second) || what == 2 && connected(p) ? 1 : 0;
                        }
                    }
                }
            }
            return n;
        }

        int ifStep(int n, int what) {
            if (n < 1 || n > 20 || what < 0 || what > 4) {
                return NONE;
            }
            Second c = copy();
            for (int done = 0; done < n && !c.full && !c.finished(); done++) {
                c.doStep();
            }
            return new int[] {c.actives().size(), c.inStateCount(0), c.eqs.size(), c.finished() ? 1 : 0,
                c.full ? 1 : 0}[what];
        }

        int needed() {
            int common = 255;
            for (Eq e : actives()) {
                common &= e.sources;
            }
            return actives().isEmpty() ? -2 : common;
        }

        int turnedRank() {
            return unturned(weights, true);
        }

        int bestWeight() {
            TreeMap<Integer, Integer> first = new TreeMap<>();
            for (int k = 0; k < words.size(); k++) {
                List<Integer> by = new ArrayList<>(weights);
                by.set(k, by.get(k) + 1);
                first.putIfAbsent(unturned(by, false), k);
            }
            return first.isEmpty() ? NONE : first.firstEntry().getValue();
        }

        int sign(int k, int what) {
            if (k < 0 || k >= words.size() || what < 0 || what > 3) {
                return NONE;
            }
            int sides = 0;
            for (Eq e : actives()) {
                sides += (e.left.often(k) > 0 ? 1 : 0) + (e.right.often(k) > 0 ? 1 : 0);
            }
            return new int[] {arities.get(k), weights.get(k), sides, words.get(k).length()}[what];
        }

        int count(int what) {
            int meeting = 0;
            for (int g = 0; what == 22 && g < goals.size(); g++) {
                meeting += meets(g) ? 1 : 0;
            }
            int[] all = tally.clone();
            int[] head = {words.size(), ratio, most, axioms.size(), goals.size(), eqs.size(), inStateCount(0),
                inStateCount(1), inStateCount(2), inStateCount(3), steps};
            System.arraycopy(head, 0, all, 0, head.length);
            all[20] = full ? 1 : 0;
            all[21] = finished() ? 1 : 0;
            all[22] = meeting;
            all[23] = tape.size();
            return what < 0 || what >= all.length ? NONE : all[what];
        }
    }

    // ---- both answer

    private static final String[] CALLS = {"feed", "text", "fault", "step", "equation", "code", "line", "by", "uses",
        "users", "inState", "next", "goal", "goalCode", "goalSources", "meetsIn", "normal", "told", "compare", "meet",
        "met", "overlaps", "overlap", "open", "ifStep", "needed", "turnedRank", "bestWeight", "sign", "count"};
    private static final int[] NUMBERS = {5, 1, 1, 1, 2, 3, 3, 3, 2, 2, 2, 0, 2, 3, 1, 1, 1, 2, 1, 1, 1, 2, 4, 1, 2, 0,
        0, 0, 2, 1};

    private static int first(CompletionLab x, int call, int[] n) {
        switch (call) {
            case 0: return x.feed(n[0], n[1], n[2], n[3], n[4]);
            case 1: return x.text(n[0]);
            case 2: return x.fault(n[0]);
            case 3: return x.step(n[0]);
            case 4: return equation(x, n[0], n[1]);
            case 5: return x.code(n[0], n[1], n[2]);
            case 6: return x.line(n[0], n[1], n[2]);
            case 7: return x.by(n[0], n[1], n[2]);
            case 8: return x.uses(n[0], n[1]);
            case 9: return x.users(n[0], n[1]);
            case 10: return x.inState(n[0], n[1]);
            case 11: return x.next();
            case 12: return x.goal(n[0], n[1]);
            case 13: return x.goalCode(n[0], n[1], n[2]);
            case 14: return x.goalSources(n[0]);
            case 15: return x.meetsIn(n[0]);
            case 16: return x.normal(n[0]);
            case 17: return x.told(n[0], n[1]);
            case 18: return x.compare(n[0]);
            case 19: return x.meet(n[0]);
            case 20: return x.met(n[0]);
            case 21: return x.overlaps(n[0], n[1]);
            case 22: return x.overlap(n[0], n[1], n[2], n[3]);
            case 23: return x.open(n[0]);
            case 24: return x.ifStep(n[0], n[1]);
            case 25: return x.needed();
            case 26: return x.turnedRank();
            case 27: return x.bestWeight();
            case 28: return x.sign(n[0], n[1]);
            default: return x.count(n[0]);
        }
    }

    private static int equation(CompletionLab x, int k, int what) {
        try {
            return x.equation(k, what);
        } catch (IndexOutOfBoundsException e) {
            return e.getClass() == IndexOutOfBoundsException.class ? IOOBE : -2000;
        } catch (NoSuchElementException e) {
            return NSEE;
        }
    }

    private static int second(Second x, int call, int[] n) {
        switch (call) {
            case 0: return x.feed(n);
            case 1: return x.text(n[0]);
            case 2: return x.fault(n[0]);
            case 3: return x.step(n[0]);
            case 4: return x.equation(n[0], n[1]);
            case 5: return x.code(n[0], n[1], n[2]);
            case 6: return x.line(n[0], n[1], n[2]);
            case 7: return x.by(n[0], n[1], n[2]);
            case 8: return x.uses(n[0], n[1]);
            case 9: return x.users(n[0], n[1]);
            case 10: return x.inState(n[0], n[1]);
            case 11: return x.next();
            case 12: return x.goal(n[0], n[1]);
            case 13: return x.goalCode(n[0], n[1], n[2]);
            case 14: return x.goalSources(n[0]);
            case 15: return x.meetsIn(n[0]);
            case 16: return x.normal(n[0]);
            case 17: return x.told(n[0], n[1]);
            case 18: return x.compare(n[0]);
            case 19: return x.meet(n[0]);
            case 20: return x.met(n[0]);
            case 21: return x.overlaps(n[0], n[1]);
            case 22: return x.overlap(n[0], n[1], n[2], n[3]);
            case 23: return x.open(n[0]);
            case 24: return x.ifStep(n[0], n[1]);
            case 25: return x.needed();
            case 26: return x.turnedRank();
            case 27: return x.bestWeight();
            case 28: return x.sign(n[0], n[1]);
            default: return x.count(n[0]);
        }
    }

    // ---- runs

    /** Numbers by a counter, so that a run is always the same. */
    private static final class Dice {
        private long state;

        Dice(long run) {
            state = run * 0x9E3779B97F4A7C15L + 12345;
        }

        int below(int n) {
            state += 0x9E3779B97F4A7C15L;
            long z = state;
            z = (z ^ z >>> 30) * 0xBF58476D1CE4E5B9L;
            z = (z ^ z >>> 27) * 0x94D049BB133111EBL;
            z ^= z >>> 31;
            return (int) Math.floorMod(z, (long) n);
        }

        boolean one(int in) {
            return below(in) == 0;
        }

        <T> T of(List<T> all) {
            return all.get(below(all.size()));
        }
    }

    private static final List<String> SYSTEMS = List.of(
            "sign e 0 1;sign m 2 1;sign i 1 1;#axiom m(e,x)=x;axiom m(i(x),x)=e;axiom m(m(x,y),z)=m(x,m(y,z));"
                    + "goal m(x,e)=x;goal i(i(x))=x;goal m(x,y)=m(y,x);goal i(m(x,y))=m(i(y),i(x));",
            "sign z 0 1;sign s 1 1;sign p 2 1;sign t 2 2;#axiom p(z,x)=x;axiom p(s(x),y)=s(p(x,y));axiom t(z,x)=z;"
                    + "axiom t(s(x),y)=p(y,t(x,y));goal p(s(z),s(z))=s(s(z));goal t(s(s(z)),s(s(z)))=s(s(s(s(z))));",
            "sign z 0 1;sign s 1 1;sign p 2 1;sign t 2 2;#axiom p(z,x)=x;axiom p(s(x),y)=s(p(x,y));axiom t(z,x)=z;"
                    + "axiom t(s(x),y)=p(y,t(x,y));axiom p(x,y)=p(y,x);goal p(x,s(y))=s(p(x,y));",
            "sign m 2 1;sign a 0 1;sign b 0 1;#axiom m(x,y)=m(y,x);axiom m(m(x,y),z)=m(x,m(y,z));goal m(a,m(b,a))=m(m(a,a),b);",
            "sign m 2 1;sign a 0 1;#axiom m(x,x)=x;axiom m(m(x,y),z)=m(x,m(y,z));goal m(a,m(x,m(a,x)))=m(a,x);",
            "sign m 2 1;sign a 0 1;#axiom m(x,x)=a;axiom m(m(x,y),z)=m(x,m(y,z));axiom m(x,a)=x;goal m(x,y)=m(y,x);",
            "sign f 1 1;sign g 1 1;sign a 0 1;#axiom f(g(f(x)))=g(x);axiom g(g(x))=f(x);goal f(f(f(a)))=g(a);",
            "sign f 1 1;sign g 1 2;sign h 1 1;#axiom f(f(f(x)))=x;axiom g(g(x))=x;axiom f(g(f(g(x))))=x;goal f(g(x))=g(f(f(x)));",
            "sign q 3 1;sign n 1 1;sign a 0 1;#axiom q(x,x,y)=x;axiom q(x,y,n(y))=x;axiom q(q(x,y,z),u,q(x,y,v))=q(x,y,q(z,u,v));"
                    + "goal q(n(y),y,x)=x;goal n(n(x))=x;",
            "sign a 0 1;sign b 0 2;sign c 0 3;sign f 1 1;sign g 2 1;#axiom f(a)=b;axiom g(x,b)=f(x);axiom g(a,x)=c;axiom b=c;"
                    + "axiom f(f(x))=g(x,x);axiom g(x,y)=g(y,x);goal c=a;goal f(x)=x;",
            "sign d 2 1;sign o 0 1;#axiom d(x,d(x,y))=y;axiom d(d(y,x),x)=y;axiom d(x,x)=o;goal d(x,o)=x;",
            "sign k 0 1;sign s 0 1;sign p 2 1;#axiom p(p(k,x),y)=x;axiom p(p(p(s,x),y),z)=p(p(x,z),p(y,z));goal p(p(p(s,k),k),x)=x;",
            "sign a 0 9;sign f 1 1;sign g 2 1;sign q 3 1;#axiom a=f(g(x,g(y,g(z,z))));axiom q(x,y,z)=q(z,x,y);goal a=f(a);",
            "sign j 2 1;sign m 2 1;sign z 0 1;#axiom j(x,m(x,y))=x;axiom m(x,j(x,y))=x;axiom j(x,y)=j(y,x);axiom m(x,y)=m(y,x);"
                    + "goal j(x,x)=x;goal m(x,x)=x;",
            "sign f 2 1;sign g 2 1;sign q 3 1;sign a 0 1;#axiom f(x,y)=g(u,v);axiom q(x,y,z)=q(u,v,w);axiom f(g(x,y),z)=g(z,z);");

    private static String term(Dice d, List<Integer> arities, int deep) {
        if (deep == 0 || d.one(3) || arities.isEmpty()) {
            return "" + "xyzuvw".charAt(d.below(d.one(3) ? 6 : 3));
        }
        int k = d.below(arities.size());
        StringBuilder b = new StringBuilder().append((char) ('a' + k));
        for (int i = 0; i < arities.get(k); i++) {
            b.append(i == 0 ? '(' : ',').append(term(d, arities, deep - 1));
        }
        return b.append(arities.get(k) > 0 ? ")" : "").toString();
    }

    private static String head(Dice d) {
        return (d.one(2) ? "ratio " + (1 + d.below(9)) + ";" : "") + (d.one(2) ? "most " + (8 + d.below(23)) + ";" : "");
    }

    private static String anyText(Dice d) {
        StringBuilder b = new StringBuilder();
        List<Integer> arities = new ArrayList<>();
        int signs = 1 + d.below(d.one(4) ? 8 : 4);
        for (int k = 0; k < signs; k++) {
            arities.add(k == 0 && d.one(2) ? 0 : d.below(d.one(3) ? 4 : 3));
            b.append("sign ").append((char) ('a' + k)).append(' ').append(arities.get(k)).append(' ')
                    .append(d.one(2) ? 1 : 1 + d.below(d.one(3) ? 9 : 3)).append(';');
        }
        b.append(head(d));
        int axioms = 1 + d.below(d.one(4) ? 8 : 4);
        for (int k = 0; k < axioms; k++) {
            b.append("axiom ").append(term(d, arities, 3)).append('=').append(term(d, arities, 1 + d.below(3))).append(';');
        }
        for (int k = d.below(4); k > 0; k--) {
            b.append("goal ").append(term(d, arities, 3)).append('=').append(term(d, arities, 2)).append(';');
        }
        return b.toString();
    }

    private static String madeText(Dice d) {
        String t = d.of(SYSTEMS);
        t = t.replace("#", head(d));
        if (d.one(3)) {
            t = t.replaceFirst("1;", (1 + d.below(4)) + ";");
        }
        if (d.one(4)) {
            t = t + "axiom " + "xyz".charAt(d.below(3)) + "=x;";
        }
        return t;
    }

    private static String marred(Dice d, String t) {
        String marks = "();=,  \n09127axyzsigngoalmost#\u00e9\t";
        StringBuilder b = new StringBuilder(t);
        for (int n = 1 + d.below(2); n > 0 && b.length() > 1; n--) {
            int at = d.below(b.length());
            switch (d.below(5)) {
                case 0: b.deleteCharAt(at); break;
                case 1: b.insert(at, marks.charAt(d.below(marks.length()))); break;
                case 2: b.setCharAt(at, marks.charAt(d.below(marks.length()))); break;
                case 3: b.setLength(at); break;
                default: b.insert(at, b.substring(at, Math.min(b.length(), at + d.below(30))));
            }
        }
        return b.toString();
    }

    private static final List<String> TOKENS = List.of("sign ", "ratio ", "most ", "axiom ", "goal ", "a", "b", "f(", "g(",
            "q(", "x", "y", "z", "u", "v", "w", "t", "(", ")", ",", "=", ";", "0 ", "1 ", "9 ", "10 ", "3 ", "4294967297 ", "abcdefg",
            "\n", "#", "))", "),", "x,", "x)");

    /** LINES as they should be, with a TOKEN at times that can't stand there. */
    private static String soup(Dice d) {
        StringBuilder b = new StringBuilder("sign a 0 1;sign f 1 1;sign g 2 1;sign q 3 1;");
        if (d.one(3)) {
            b.append("sign b 0 9;sign h 1 1;sign i 0 2;sign j 1 3;");
        }
        for (int n = d.below(14); n > 0 && b.length() < 800; n--) {
            switch (d.below(8)) {
                case 0: b.append(d.one(2) ? "ratio " : "most ").append(d.below(35)).append(';'); break;
                case 1: b.append("sign ").append("abcfgqk".charAt(d.below(7))).append(' ').append(d.below(5)).append(' ')
                        .append(d.below(11)).append(';'); break;
                case 2: b.append(d.of(TOKENS)); break;
                default: b.append(d.one(3) ? "goal " : "axiom ").append(wild(d, 4)).append('=').append(wild(d, 3)).append(';');
            }
        }
        if (d.one(3)) {
            int at = d.below(b.length());
            b.insert(at, d.of(TOKENS));
        }
        return b.toString();
    }

    private static String wild(Dice d, int deep) {
        int k = d.below(deep == 0 ? 8 : 14);
        if (k < 7) {
            return "" + "xyzuvwt".charAt(k);
        }
        if (k == 7) {
            return "a";
        }
        int below = d.one(40) ? d.below(4) : 1 + k % 3;
        StringBuilder b = new StringBuilder().append("fgq".charAt(k % 3));
        for (int i = 0; i < below; i++) {
            b.append(i == 0 ? '(' : ',').append(wild(d, deep - 1));
        }
        return b.append(below > 0 ? ")" : "").toString();
    }

    private static final class Both {
        final long run;
        final CompletionLab one = new CompletionLab();
        final Second two = new Second();
        final StringBuilder story = new StringBuilder();
        int calls;
        boolean differ;

        Both(long run) {
            this.run = run;
        }

        int ask(int call, int... n) {
            if (calls >= 512 || differ) {
                return 0;
            }
            calls++;
            int a;
            try {
                a = first(one, call, n);
            } catch (RuntimeException e) {
                a = -3000;
                e.printStackTrace();
            }
            int b = second(two, call, n);
            asked++;
            story.append(CALLS[call]).append(Arrays.toString(Arrays.copyOf(n, NUMBERS[call]))).append(" = ").append(b).append('\n');
            if (a != b) {
                differ = true;
                wrong++;
                System.out.println("run " + run + ": " + CALLS[call] + Arrays.toString(n) + " answered " + a
                        + ", the second program " + b);
            }
            return b;
        }

        void feed(String t) {
            for (int i = 0; i < t.length(); i += 20) {
                int[] n = new int[5];
                for (int k = 0; k < 20; k++) {
                    n[k / 4] = n[k / 4] << 8 | (i + k < t.length() ? t.charAt(i + k) & 255 : 32);
                }
                ask(0, n);
            }
        }
    }

    private static long asked;
    private static int wrong;

    private static int near(Dice d, int n) {
        switch (d.below(20)) {
            case 0: return -1 - d.below(3);
            case 1: return n + d.below(3);
            case 2: return d.one(2) ? Integer.MAX_VALUE : Integer.MIN_VALUE;
            default: return n <= 0 ? 0 : d.below(n);
        }
    }

    private static int eq(Dice d, Both b) {
        int n = b.two.eqs.size();
        if (d.one(3)) {
            List<Eq> a = b.two.actives();
            if (!a.isEmpty()) {
                return d.of(a).number;
            }
        }
        return near(d, n);
    }

    private static void anyCall(Dice d, Both b) {
        int call = 2 + d.below(CALLS.length - 2);
        int k = eq(d, b);
        int l = eq(d, b);
        boolean there = k >= 0 && k < b.two.eqs.size();
        int lines = there ? b.two.eqs.get(k).proof.size() : 3;
        switch (CALLS[call]) {
            case "step": b.ask(call, d.one(10) ? near(d, 21) : 1 + d.below(3)); break;
            case "fault": b.ask(call, near(d, 2)); break;
            case "equation": b.ask(call, k, near(d, 10)); break;
            case "code": b.ask(call, k, near(d, 2), near(d, 10)); break;
            case "line": b.ask(call, k, near(d, lines), near(d, 10)); break;
            case "by":
                b.ask(call, k, near(d, lines), near(d, 3));
                for (int n = 0; n < 3; n++) {
                    b.ask(call, k, lines - 1, n);
                    b.ask(call, k, 1, n);
                }
                break;
            case "uses": case "overlaps": b.ask(call, k, l); break;
            case "users": b.ask(call, k, near(d, 4)); break;
            case "inState": b.ask(call, near(d, 4), near(d, 10)); break;
            case "goal": b.ask(call, near(d, b.two.goals.size()), near(d, 5)); break;
            case "goalCode": b.ask(call, near(d, b.two.goals.size()), near(d, 2), near(d, 8)); break;
            case "goalSources": b.ask(call, near(d, b.two.goals.size())); break;
            case "meetsIn":
                if (d.one(6)) {
                    b.ask(call, near(d, b.two.goals.size()));
                }
                break;
            case "normal": case "compare": case "meet": reading(d, b, call); break;
            case "told": b.ask(call, near(d, 4), d.below(12) - 5); break;
            case "met": b.ask(call, near(d, 20)); break;
            case "overlap": b.ask(call, k, l, near(d, 3), near(d, 7)); break;
            case "open":
                if (d.one(4)) {
                    b.ask(call, near(d, 3));
                }
                break;
            case "ifStep":
                if (d.one(4)) {
                    b.ask(call, near(d, 21), near(d, 5));
                }
                break;
            case "sign": b.ask(call, near(d, b.two.words.size()), near(d, 4)); break;
            case "count": b.ask(call, near(d, 24)); break;
            default: b.ask(call);
        }
    }

    private static String own(Dice d, Both b, int deep) {
        if (deep == 0 || d.one(4) || b.two.words.isEmpty()) {
            return "" + "xyzuvw".charAt(d.below(d.one(3) ? 6 : 3));
        }
        int k = d.below(b.two.words.size());
        StringBuilder s = new StringBuilder(b.two.words.get(k));
        for (int i = 0; i < b.two.arities.get(k); i++) {
            s.append(i == 0 ? '(' : ',').append(own(d, b, deep - 1));
        }
        return s.append(b.two.arities.get(k) > 0 ? ")" : "").toString();
    }

    private static void reading(Dice d, Both b, int call) {
        String t = own(d, b, 1 + d.below(4));
        if (!CALLS[call].equals("normal")) {
            t = t + "=" + own(d, b, 1 + d.below(4));
        }
        if (d.one(10)) {
            t = marred(d, t);
        }
        if (d.one(3)) {
            b.ask(call, near(d, 40));
        }
        int before = b.two.tape.size();
        b.feed(t);
        b.ask(call, before == 0 && d.one(2) ? t.length() : b.two.tape.size());
        if (CALLS[call].equals("normal")) {
            for (int n = 0; n < 4; n++) {
                b.ask(17, near(d, 6), d.below(14) - 4);
            }
        } else if (CALLS[call].equals("meet")) {
            for (int n = 0; n < 4; n++) {
                b.ask(20, near(d, 20));
            }
        }
    }

    private static void text(Dice d, Both b, String t) {
        String given = t.length() > 880 ? t.substring(0, 880) : t;
        if (b.two.tape.size() + given.length() + 20 > 900) {
            b.ask(1, 0);
        }
        int before = b.two.tape.size();
        b.feed(given);
        b.ask(1, before == 0 ? given.length() : b.two.tape.size());
        b.ask(2, 0);
        b.ask(2, 1);
    }

    private static void play(long run) {
        Dice d = new Dice(run);
        Both b = new Both(run);
        boolean small = d.one(3);
        while (b.calls < 512 && !b.differ) {
            String t = d.one(2) ? anyText(d) : madeText(d);
            for (int n = d.below(3); n > 0; n--) {
                text(d, b, marred(d, t));
            }
            for (int n = d.below(3); n > 0; n--) {
                text(d, b, soup(d));
            }
            text(d, b, t);
            int calls = b.calls + (small ? 60 : 250);
            int first = d.below(4);
            for (int n = 0; n < first; n++) {
                b.ask(3, 1 + d.below(20));
            }
            while (b.calls < calls && b.calls < 512 && !b.differ) {
                anyCall(d, b);
            }
        }
        if (b.differ) {
            System.out.println(b.story);
        }
    }

    public static void main(String[] args) {
        long from = args.length > 0 ? Long.parseLong(args[0]) : 1;
        long runs = args.length > 1 ? Long.parseLong(args[1]) : 60;
        for (long run = from; run < from + runs && wrong < 3; run++) {
            play(run);
        }
        System.out.println("SecondProgramTest: " + asked + " calls, " + wrong + " runs differ");
        if (wrong > 0) {
            System.exit(1);
        }
    }
}
