import java.util.ArrayList;
import java.util.HashMap;
import java.util.HashSet;
import java.util.List;
import java.util.Map;
import java.util.Set;

/**
 * What the face tells must hang together, whatever it is: each line of each PROOF follows from the one ahead of it,
 * what is told of an EQUATION follows from its lines, what is asked ahead comes so, steps of told() are steps, the
 * tallies are those of the EQUATIONS. No second program is asked; each object gets fewer than 512 calls.
 */
public final class ProofTest {
    private static final String[] TEXTS = {
        "sign e 0 1;sign m 2 1;sign i 1 1;axiom m(e,x)=x;axiom m(i(x),x)=e;axiom m(m(x,y),z)=m(x,m(y,z));"
                + "goal i(i(a))=a;goal m(a,e)=a;goal m(a,b)=m(b,a);",
        "sign z 0 1;sign s 1 1;sign p 2 1;sign t 2 2;axiom p(z,x)=x;axiom p(s(x),y)=s(p(x,y));axiom t(z,x)=z;"
                + "axiom t(s(x),y)=p(y,t(x,y));axiom p(x,y)=p(y,x);goal p(x,s(y))=s(p(x,y));",
        "sign z 0 1;sign s 1 1;sign p 2 1;axiom p(z,x)=x;axiom p(s(x),y)=s(p(x,y));goal p(s(z),s(z))=s(s(z));",
        "sign m 2 1;sign a 0 1;sign b 0 1;axiom m(x,y)=m(y,x);axiom m(m(x,y),z)=m(x,m(y,z));goal m(a,m(b,a))=m(m(a,a),b);",
        "sign m 2 1;sign a 0 1;most 30;axiom m(x,x)=x;axiom m(m(x,y),z)=m(x,m(y,z));goal m(a,m(x,m(a,x)))=m(a,x);",
        "sign m 2 1;sign a 0 1;ratio 2;axiom m(x,x)=a;axiom m(m(x,y),z)=m(x,m(y,z));axiom m(x,a)=x;goal m(x,y)=m(y,x);",
        "sign f 1 1;sign g 1 1;sign a 0 1;axiom f(g(f(x)))=g(x);axiom g(g(x))=f(x);goal f(f(f(a)))=g(a);",
        "sign f 1 1;sign g 1 2;sign h 1 1;axiom f(f(f(x)))=x;axiom g(g(x))=x;axiom f(g(f(g(x))))=x;goal f(g(x))=g(f(f(x)));",
        "sign a 0 1;sign b 0 2;sign c 0 3;sign f 1 1;sign g 2 1;ratio 1;axiom f(a)=b;axiom g(x,b)=f(x);axiom g(a,x)=c;axiom b=c;"
                + "axiom f(f(x))=g(x,x);axiom g(x,y)=g(y,x);goal c=a;goal f(x)=x;",
        "sign d 2 1;sign o 0 1;axiom d(x,d(x,y))=y;axiom d(d(y,x),x)=y;axiom d(x,x)=o;goal d(x,o)=x;",
        "sign q 3 1;sign n 1 1;sign a 0 1;axiom q(x,x,y)=x;axiom q(x,y,n(y))=x;goal q(n(y),y,x)=x;goal n(n(x))=x;",
        "sign j 2 1;sign m 2 1;sign z 0 1;axiom j(x,m(x,y))=x;axiom m(x,j(x,y))=x;axiom j(x,y)=j(y,x);axiom m(x,y)=m(y,x);"
                + "goal j(x,x)=x;goal m(x,x)=x;",
        "sign f 2 1;sign g 2 1;sign q 3 1;sign a 0 1;axiom f(x,y)=g(u,v);axiom q(x,y,z)=q(u,v,w);axiom f(g(x,y),z)=g(z,z);",
        "sign a 0 1;sign b 0 1;sign f 1 1;ratio 1;axiom f(b)=a;axiom b=a;goal f(a)=b;",
        "sign a 0 1;sign b 0 1;sign f 1 1;ratio 1;axiom f(a)=b;axiom a=b;goal f(a)=b;",
    };
    private static final int[] STEPS = {1, 4, 12, 20, 45};
    private static final String VARIABLES = "uvwxyzopqrst";

    private static int looked = 0;
    private static int wrong = 0;

    private static void due(String where, long got, long want) {
        looked++;
        if (got != want && wrong++ < 40) {
            System.out.println(where + " is " + got + ", should be " + want);
        }
    }

    private static void holds(String where, boolean holds) {
        due(where, holds ? 1 : 0, 1);
    }

    // ---- one state of a lab, in as many objects as are needed

    private static final class State {
        final String text;
        final int steps;
        final List<String> words = new ArrayList<>();
        private CompletionLab lab;
        private int calls;

        State(String text, int steps) {
            this.text = text;
            this.steps = steps;
            for (String line : text.split(";")) {
                if (line.startsWith("sign ")) {
                    words.add(line.split(" ")[1]);
                }
            }
        }

        /** The same state in a new object, where the old one has had its calls. */
        CompletionLab lab() {
            if (lab == null || calls > 440) {
                lab = fresh(text);
                calls = 50;
                for (int n = 0; n < steps; n++) {
                    lab.step(1);
                    calls++;
                }
            }
            calls++;
            return lab;
        }

        int compare(String terms) {
            CompletionLab one = lab();
            calls += 5;
            feed(one, terms);
            return one.compare(one.count(23));
        }

        int equation(int k, int what) {
            return lab().equation(k, what);
        }
    }

    private static void feed(CompletionLab lab, String text) {
        for (int i = 0; i < text.length(); i += 20) {
            int[] part = new int[5];
            for (int k = 0; k < 20; k++) {
                int c = i + k < text.length() ? text.charAt(i + k) : ' ';
                part[k / 4] = part[k / 4] << 8 | c & 255;
            }
            lab.feed(part[0], part[1], part[2], part[3], part[4]);
        }
    }

    private static CompletionLab fresh(String text) {
        CompletionLab lab = new CompletionLab();
        feed(lab, text);
        lab.text(text.length());
        return lab;
    }

    // ---- TERMS as CODES

    private static int[] arities;

    private static int end(List<Integer> t, int p) {
        int missing = 1;
        int i = p;
        while (missing > 0 && i < t.size()) {
            int c = t.get(i);
            missing += (c >= 100 ? 0 : arities[c]) - 1;
            i++;
        }
        return i;
    }

    private static boolean fits(List<Integer> pattern, List<Integer> t, Map<Integer, List<Integer>> terms) {
        int j = 0;
        for (int c : pattern) {
            if (j >= t.size()) {
                return false;
            }
            int next = c >= 100 ? end(t, j) : j + 1;
            if (c >= 100) {
                List<Integer> there = t.subList(j, next);
                List<Integer> known = terms.putIfAbsent(c, there);
                if (known != null && !known.equals(there)) {
                    return false;
                }
            } else if (t.get(j) != c) {
                return false;
            }
            j = next;
        }
        return j == t.size();
    }

    /** Whether one TERM becomes another at a PLACE where from becomes to, with the same TERMS for VARIABLES. */
    private static boolean follows(List<Integer> s, List<Integer> t, int place, List<Integer> from, List<Integer> to) {
        if (place < 0 || place >= s.size() || place >= t.size() || !s.subList(0, place).equals(t.subList(0, place))) {
            return false;
        }
        int i = end(s, place);
        int j = end(t, place);
        Map<Integer, List<Integer>> terms = new HashMap<>();
        return s.subList(i, s.size()).equals(t.subList(j, t.size()))
                && fits(from, s.subList(place, i), terms) && fits(to, t.subList(place, j), terms);
    }

    private static String word(State x, List<Integer> t, int[] at) {
        int c = t.get(at[0]++);
        if (c >= 100) {
            return VARIABLES.substring(c - 100, c - 99) + "v";
        }
        StringBuilder b = new StringBuilder(x.words.get(c));
        for (int n = 0; n < arities[c]; n++) {
            b.append(n == 0 ? "(" : ",").append(word(x, t, at));
        }
        return b.append(arities[c] > 0 ? ")" : "").toString();
    }

    private static String word(State x, List<Integer> t) {
        return word(x, t, new int[1]);
    }

    // ---- what is read

    private static List<Integer> side(State x, int k, int side) {
        List<Integer> t = new ArrayList<>();
        for (int c = x.lab().code(k, side, 0); c >= 0; c = x.lab().code(k, side, t.size())) {
            t.add(c);
        }
        return t;
    }

    private static List<Integer> line(State x, int k, int line) {
        List<Integer> t = new ArrayList<>();
        for (int c = x.lab().line(k, line, 0); c >= 0; c = x.lab().line(k, line, t.size())) {
            t.add(c);
        }
        return t;
    }

    private static void numbered(String where, List<List<Integer>> terms) {
        int names = 0;
        boolean good = true;
        for (List<Integer> t : terms) {
            good = good && !t.isEmpty() && end(t, 0) == t.size() && t.size() <= 60;
            for (int c : t) {
                good = good && c <= 100 + names;
                names += c == 100 + names ? 1 : 0;
            }
        }
        holds(where + ": TERMS, VARIABLES numbered as they come, 12 at most", good && names <= 12);
    }

    private static void sizes(State x, String where, int k, List<Integer> left, List<Integer> right) {
        due(where + " SIZE", x.equation(k, 1), left.size() + right.size());
        Set<Integer> names = new HashSet<>();
        for (List<Integer> t : List.of(left, right)) {
            t.stream().filter(c -> c >= 100).forEach(names::add);
        }
        due(where + " VARIABLES", x.equation(k, 9), names.size());
        int state = x.equation(k, 0);
        if (left.size() <= 12 && right.size() <= 12 && names.size() <= 6 && (state == 1 || state == 2)) {
            String asked = word(x, left) + "=" + word(x, right);
            due(where + " GREATER " + asked, x.compare(asked), state == 1 ? 1 : 3);
        }
    }

    /** The PROOF of one EQUATION, and what follows from it; used: what each hangs on. */
    private static void proof(State x, int k, List<Set<Integer>> used) {
        String where = "'" + x.text + "' behind " + x.steps + ": EQUATION " + k;
        List<Integer> left = side(x, k, 0);
        List<Integer> right = side(x, k, 1);
        sizes(x, where, k, left, right);
        int origin = x.equation(k, 2);
        int lines = x.equation(k, 4);
        List<List<Integer>> all = new ArrayList<>(List.of(left, right));
        int depth = 0;
        long length = origin == 0 ? 1 : 0;
        int sources = origin == 0 ? 1 << k : 0;
        List<Integer> before = line(x, k, 0);
        all.add(before);
        holds(where + " line 0 is LEFT", before.equals(left));
        Set<Integer> mine = new HashSet<>();
        for (int n = 1; n < lines; n++) {
            List<Integer> now = line(x, k, n);
            all.add(now);
            int by = x.lab().by(k, n, 0);
            boolean forth = x.lab().by(k, n, 1) == 1;
            holds(where + " line " + n + " by a lesser number", origin == 0 ? by == k && n == 1 : by >= 0 && by < k);
            if (by < 0 || by > k) {
                return;
            }
            holds(where + " line " + n + " follows", follows(before, now, x.lab().by(k, n, 2),
                    side(x, by, forth ? 0 : 1), side(x, by, forth ? 1 : 0)));
            if (origin != 0) {
                mine.add(by);
                mine.addAll(used.get(by));
                depth = Math.max(depth, 1 + x.equation(by, 5));
                length = Math.min(1000000000, length + x.equation(by, 6));
                sources |= x.equation(by, 7);
            }
            before = now;
        }
        used.add(mine);
        holds(where + " the last line is RIGHT", before.equals(right));
        numbered(where, all);
        due(where + " DEPTH", x.equation(k, 5), depth);
        due(where + " LENGTH", x.equation(k, 6), length);
        due(where + " SOURCES", x.equation(k, 7), sources);
        due(where + " lines", lines, origin == 0 ? 2 : origin == 1 || origin == 3 ? 3 : Math.max(lines, origin == 4 ? 3 : 2));
        for (int other = 0; other <= k; other++) {
            due(where + " uses " + other, x.lab().uses(k, other), mine.contains(other) ? 1 : 0);
        }
    }

    private static int[][] tallies(State x, int count) {
        int[][] many = new int[5][5];
        for (int k = 0; k < count; k++) {
            many[0][x.equation(k, 0)]++;
            many[1][x.equation(k, 2)]++;
            if (x.equation(k, 0) == 3) {
                many[2][x.equation(k, 3)]++;
            } else {
                due("why of EQUATION " + k + ", which isn't GONE", x.equation(k, 3), -2);
            }
        }
        return many;
    }

    private static void counts(State x, List<Set<Integer>> used) {
        String where = "'" + x.text + "' behind " + x.steps + ": ";
        int count = x.lab().count(5);
        int[][] many = tallies(x, count);
        for (int state = 0; state < 4; state++) {
            due(where + "count(" + (6 + state) + ")", x.lab().count(6 + state), many[0][state]);
            int seen = 0;
            for (int k = 0; k < count; k++) {
                if (x.equation(k, 0) == state) {
                    due(where + "inState(" + state + ", " + seen + ")", x.lab().inState(state, seen), k);
                    seen++;
                }
            }
            due(where + "inState(" + state + ", " + seen + ")", x.lab().inState(state, seen), -2);
        }
        due(where + "axioms", x.lab().count(3), many[1][0]);
        due(where + "JOINED", x.lab().count(11), many[2][1]);
        due(where + "SUBSUMED", x.lab().count(12), many[2][2]);
        due(where + "COLLAPSED", x.lab().count(13), many[2][3]);
        due(where + "COLLAPSED, a new one each", x.lab().count(13), many[1][3]);
        due(where + "COMPOSED", x.lab().count(14), many[2][4]);
        due(where + "COMPOSED, a new one each", x.lab().count(14), many[1][4]);
        due(where + "pairs that came to WAIT", x.lab().count(19), many[1][1]);
        due(where + "STEPS", x.lab().count(10), many[2][0] + many[2][1] + many[2][2]);
        int full = x.lab().count(20);
        int unmade = many[2][0] - many[1][2];
        holds(where + "each TAKEN UP makes one, but for the one that makes it FULL", unmade == 0 || full == 1 && unmade == 1);
        due(where + "FINISHED", x.lab().count(21), full == 0 && many[0][0] == 0 ? 1 : 0);
        int common = -1;
        for (int k = 0; k < count; k++) {
            int state = x.equation(k, 0);
            common &= state == 1 || state == 2 ? x.equation(k, 7) : -1;
            int[] users = new int[4];
            for (int other = k + 1; other < used.size() && k % 7 == 0; other++) {
                users[x.equation(other, 0)] += used.get(other).contains(k) ? 1 : 0;
            }
            for (int s = 0; s < 4 && k % 7 == 0; s++) {
                due(where + "users(" + k + ", " + s + ")", x.lab().users(k, s), users[s]);
            }
        }
        due(where + "needed()", x.lab().needed(), many[0][1] + many[0][2] == 0 ? -2 : common);
    }

    // ---- what is asked ahead, OVERLAPS, normal()

    private static void ahead(String text) {
        State now = new State(text, 0);
        int goals = now.lab().count(4);
        int[] meets = new int[goals];
        for (int g = 0; g < goals; g++) {
            meets[g] = -2;
        }
        CompletionLab x = fresh(text);
        for (int n = 0; n <= 20; n++) {
            boolean goesOn = n == 0 || x.step(1) == 1;
            for (int g = 0; g < goals && goesOn; g++) {
                meets[g] = meets[g] < 0 && x.goal(g, 0) == 1 ? n : meets[g];
            }
            if (n > 0) {
                String where = "'" + text + "': ifStep(" + n + ", ";
                due(where + "0)", now.lab().ifStep(n, 0), x.count(7) + x.count(8));
                due(where + "1)", now.lab().ifStep(n, 1), x.count(6));
                due(where + "2)", now.lab().ifStep(n, 2), x.count(5));
                due(where + "3)", now.lab().ifStep(n, 3), x.count(21));
                due(where + "4)", now.lab().ifStep(n, 4), x.count(20));
            }
        }
        for (int g = 0; g < goals; g++) {
            int told = now.lab().meetsIn(g);
            due("'" + text + "': meetsIn(" + g + ")", told > 20 ? -2 : told, meets[g]);
        }
    }

    private static void pairs(State x) {
        String where = "'" + x.text + "' behind " + x.steps + ": ";
        int most = x.lab().count(2);
        List<Integer> active = new ArrayList<>();
        for (int k = 0; k < x.lab().count(5); k++) {
            int state = x.equation(k, 0);
            if (state == 1 || state == 2) {
                active.add(k);
            }
        }
        int all = 0;
        int open = 0;
        for (int a : active) {
            for (int b : active) {
                int many = x.lab().overlaps(a, b);
                due(where + "overlap behind the last one", x.lab().overlap(a, b, many, 0), -2);
                for (int i = 0; i < many; i++) {
                    int greatest = Math.max(x.lab().overlap(a, b, i, 3), Math.max(x.lab().overlap(a, b, i, 4), x.lab().overlap(a, b, i, 5)));
                    all += greatest <= most ? 1 : 0;
                    open += greatest <= most && x.lab().overlap(a, b, i, 6) == 0 ? 1 : 0;
                }
            }
        }
        due(where + "open(1)", x.lab().open(1), all);
        due(where + "open(0)", x.lab().open(0), open);
        if (x.lab().count(21) == 1 && x.lab().count(8) == 0 && x.lab().count(15) == 0) {
            due(where + "FINISHED with RULES alone, none was TOO BIG: none is open", open, 0);
        }
    }

    /** The left side of a GOAL told to normal(): the same NORMAL FORM, by steps that are steps of ACTIVE ones. */
    private static void normals(State x) {
        int g = 0;
        for (String line : x.text.split(";")) {
            if (!line.startsWith("goal ")) {
                continue;
            }
            String where = "'" + x.text + "' behind " + x.steps + ": GOAL " + g;
            String t = line.substring(5, line.indexOf('='));
            CompletionLab lab = new State(x.text, x.steps).lab();
            feed(lab, t);
            int size = lab.normal(t.length());
            due(where + " SIZE", size, lab.goal(g, 3));
            int lines = lab.goal(g, 1);
            due(where + " steps", lab.told(lines + 1, 0), -2);
            List<Integer> before = null;
            for (int n = 0; n <= lines; n++) {
                List<Integer> now = new ArrayList<>();
                for (int c = lab.told(n, 0); c >= 0; c = lab.told(n, now.size())) {
                    now.add(c);
                }
                if (n > 0) {
                    int by = lab.told(n, -1);
                    int way = lab.told(n, -4);
                    holds(where + " by an ACTIVE one", x.equation(by, 0) == 1 || x.equation(by, 0) == 2);
                    holds(where + " line " + n + " follows", follows(before, now, lab.told(n, -3), side(x, by, way), side(x, by, 1 - way)));
                }
                before = now;
            }
            for (int i = 0; i < size; i++) {
                due(where + " goalCode(.., 0, " + i + ")", lab.goalCode(g, 0, i), before.get(i));
            }
            g++;
        }
    }

    private static void look(String text, int steps) {
        State x = new State(text, steps);
        arities = new int[x.words.size()];
        for (int k = 0; k < arities.length; k++) {
            arities[k] = x.lab().sign(k, 0);
        }
        List<Set<Integer>> used = new ArrayList<>();
        int count = x.lab().count(5);
        for (int k = 0; k < count && used.size() == k; k++) {
            proof(x, k, used);
        }
        counts(x, used);
        pairs(x);
        normals(x);
    }

    public static void main(String[] args) {
        for (String text : TEXTS) {
            for (int steps : STEPS) {
                look(text, steps);
            }
            ahead(text);
        }
        System.out.println("ProofTest: " + looked + " places looked at, " + wrong + " not so");
        if (wrong > 0) {
            System.exit(1);
        }
    }
}
