import java.util.NoSuchElementException;

/** Each promise of the document by hand: what is ordinary, the edges, wrong inputs. */
public final class PromiseTest {
    private static final int NONE = -1;
    private static final String SUM = "sign z 0 1;sign s 1 1;sign p 2 1;axiom p(z,x)=x;axiom p(s(x),y)=s(p(x,y));"
            + "goal p(s(z),s(z))=s(s(z));goal x=s(x);";
    private static final String TWICE_F = "sign g 1 1;sign f 1 1;axiom f(f(x))=g(x);";
    private static final String SWAP = "sign a 0 1;sign b 0 1;sign p 2 1;axiom p(x,y)=p(y,x);goal p(b,a)=p(a,b);";
    private static final String COLLAPSE = "sign a 0 1;sign b 0 1;sign f 1 1;ratio 1;axiom f(b)=a;axiom b=a;";
    private static final String COMPOSE = "sign a 0 1;sign b 0 1;sign f 1 1;ratio 1;axiom f(a)=b;axiom a=b;";
    private static final String GROUP = "sign e 0 1;sign m 2 1;sign i 1 1;axiom m(e,x)=x;axiom m(i(x),x)=e;"
            + "axiom m(m(x,y),z)=m(x,m(y,z));goal i(i(a))=a;goal m(a,b)=m(b,a);";

    private static int passed = 0;
    private static int wrong = 0;

    private static void due(int promise, String call, int got, int want) {
        if (got == want) {
            passed++;
        } else {
            wrong++;
            System.out.println("promise " + promise + ": " + call + " answered " + got + ", due is " + want);
        }
    }

    private static int feed(CompletionLab x, String text) {
        int size = x.count(23);
        for (int i = 0; i < text.length(); i += 20) {
            int[] part = new int[5];
            for (int k = 0; k < 20; k++) {
                int c = i + k < text.length() ? text.charAt(i + k) : ' ';
                part[k / 4] = part[k / 4] << 8 | c & 255;
            }
            size = x.feed(part[0], part[1], part[2], part[3], part[4]);
        }
        return size;
    }

    private static int text(CompletionLab x, String text) {
        feed(x, text);
        return x.text(text.length());
    }

    private static CompletionLab lab(String text) {
        CompletionLab x = new CompletionLab();
        if (text(x, text) < 0) {
            throw new IllegalStateException("fault " + x.fault(0) + " at " + x.fault(1) + ": " + text);
        }
        return x;
    }

    /** Where the TAPE is empty: the blanks behind the TERM go with it. */
    private static int normal(CompletionLab x, String term) {
        feed(x, term);
        return x.normal(x.count(23));
    }

    private static int compare(CompletionLab x, String terms) {
        feed(x, terms);
        return x.compare(x.count(23));
    }

    private static int meet(CompletionLab x, String terms) {
        feed(x, terms);
        return x.meet(x.count(23));
    }

    private static int equation(CompletionLab x, int k, int what) {
        try {
            return x.equation(k, what);
        } catch (IndexOutOfBoundsException e) {
            return -1001;
        } catch (NoSuchElementException e) {
            return -1002;
        }
    }

    private static void equationIs(int promise, CompletionLab x, int k, int... answers) {
        for (int what = 0; what < answers.length; what++) {
            due(promise, "equation(" + k + ", " + what + ")", equation(x, k, what), answers[what]);
        }
    }

    private static void sideIs(int promise, CompletionLab x, int k, int side, int... codes) {
        for (int i = 0; i < codes.length; i++) {
            due(promise, "code(" + k + ", " + side + ", " + i + ")", x.code(k, side, i), codes[i]);
        }
        due(promise, "code(" + k + ", " + side + ", " + codes.length + ")", x.code(k, side, codes.length), -2);
    }

    private static void lineIs(int promise, CompletionLab x, int k, int line, int... codes) {
        for (int i = 0; i < codes.length; i++) {
            due(promise, "line(" + k + ", " + line + ", " + i + ")", x.line(k, line, i), codes[i]);
        }
        due(promise, "line(" + k + ", " + line + ", " + codes.length + ")", x.line(k, line, codes.length), -2);
    }

    private static void byIs(int promise, CompletionLab x, int k, int line, int... answers) {
        for (int what = 0; what < 3; what++) {
            due(promise, "by(" + k + ", " + line + ", " + what + ")", x.by(k, line, what), answers[what]);
        }
        due(promise, "by(" + k + ", " + line + ", 3)", x.by(k, line, 3), NONE);
        due(promise, "by(" + k + ", " + line + ", -1)", x.by(k, line, -1), NONE);
    }

    private static void newObject() {
        CompletionLab x = new CompletionLab();
        due(1, "NONE", CompletionLab.NONE, -1);
        int[] counts = {0, 4, 20, 0, 0, 0, 0, 0, 0, 0, 0, 0, 0, 0, 0, 0, 0, 0, 0, 0, 0, 1, 0, 0};
        for (int what = 0; what < counts.length; what++) {
            due(1, "count(" + what + ")", x.count(what), counts[what]);
        }
        due(1, "step(1)", x.step(1), 0);
        due(1, "next()", x.next(), -2);
    }

    private static void tapes() {
        CompletionLab x = new CompletionLab();
        for (int n = 1; n <= 45; n++) {
            due(2, "feed", x.feed(0x20202020, 0x20202020, 0x20202020, 0x20202020, 0x20202020), 20 * n);
        }
        due(2, "feed beyond 900", x.feed(1, 2, 3, 4, 5), NONE);
        due(2, "count(23)", x.count(23), 900);
        due(2, "text(900)", x.text(900), 0);
        // a, b, c, d in a row: the highest byte of each number first
        due(2, "feed", x.feed(0x61626364, 0x2c616200, -1, 0x80808080, 0), 20);
        due(2, "normal(4)", x.normal(4), 1);
        due(2, "count(23)", x.count(23), 16);
        due(2, "normal(1)", x.normal(1), NONE);
        due(2, "fault(1)", x.fault(1), 0);
        due(2, "normal(2)", x.normal(2), 1);
        due(2, "normal(1)", x.normal(1), NONE);
        due(2, "fault(0)", x.fault(0), 1);
    }

    private static void texts() {
        CompletionLab x = lab(SUM);
        due(3, "count(23)", x.count(23), 0);
        due(3, "step(5)", x.step(5), 2);
        feed(x, "sign a 0 1;");
        due(3, "text(-1)", x.text(-1), -2);
        due(3, "text(21)", x.text(21), -2);
        due(3, "text(MAX)", x.text(Integer.MAX_VALUE), -2);
        due(3, "count(23)", x.count(23), 20);
        due(3, "text(10)", x.text(10), NONE);
        due(3, "the TAPE is empty", x.count(23), 0);
        due(3, "all else stays", x.count(5), 4);
        due(3, "all else stays", x.count(10), 2);
        due(3, "text", text(x, " sign a 0 1;\n\nsign b 1 007 ;"), 2);
        due(3, "anew", x.count(5) + x.count(10) + x.count(9) + x.count(4), 0);
        due(3, "weight", x.sign(1, 1), 7);
        feed(x, "sign a 0 1;sign b 0 1;");
        due(3, "text(12)", x.text(11), 1);
        due(3, "all of the TAPE is used up", x.count(23), 0);
        feed(x, "sign a 0 12;");
        due(3, "a number cut in two", x.text(10), NONE);
        due(3, "its place", x.fault(1), 10);
        due(3, "text(0)", x.text(0), 0);
        due(3, "count(0)", x.count(0), 0);
        due(3, "eight of all, four goals", text(x, "sign a 0 1;sign b 0 1;sign c 0 1;sign d 1 1;sign e 2 1;"
                + "sign f 3 1;sign g 0 9;sign h 3 9;goal a=b;axiom a=b;axiom a=b;axiom a=b;axiom a=b;axiom a=b;axiom a=b;"
                + "axiom a=b;axiom a=b;goal x=a;goal x=a;goal x=a;"), 20);
        due(3, "count(3)", x.count(3), 8);
        due(3, "count(4)", x.count(4), 4);
        due(3, "ratio and most between", text(x, "most 8;sign a 0 1;ratio 9;sign abcdef 0 1;"), 4);
        due(3, "count(1)", x.count(1), 9);
        due(3, "count(2)", x.count(2), 8);
    }

    private static void faultIs(String text, int fault, int place) {
        CompletionLab x = new CompletionLab();
        due(4, "text '" + text + "'", text(x, text), fault == 0 ? 1 : NONE);
        due(4, "fault(0) of '" + text + "'", x.fault(0), fault);
        due(4, "fault(1) of '" + text + "'", x.fault(1), place);
    }

    private static void faults() {
        faultIs("axiom x=x;", 0, NONE);
        faultIs("axiom x=x", 1, 9);
        faultIs("axiom x=x ", 1, 10);
        faultIs("axiom x=x;;", 1, 10);
        faultIs("axiom x==x;", 1, 8);
        faultIs("axiom x=x,", 1, 9);
        faultIs("axiom x=x);", 1, 9);
        faultIs("axiom x(y)=x;", 1, 7);
        faultIs("Axiom x=x;", 1, 0);
        faultIs("axiom x=\tx;", 1, 8);
        faultIs("rule x=x;", 1, 0);
        faultIs("axiom goal=x;", 1, 6);
        faultIs("axiom x=abcdefg;", 1, 8);
        faultIs("axiom 1=x;", 1, 6);
        faultIs("sign 1 0 1;", 1, 5);
        faultIs("sign a b 1;", 1, 7);
        faultIs("sign a 1;", 1, 8);
        faultIs("sign most 1 1;", 1, 5);
        faultIs("sign sign 1 1;", 1, 5);
        faultIs("sign ratio 1 1;", 1, 5);
        faultIs("sign axiom 1 1;", 1, 5);
        faultIs("axiom x=ratio;", 1, 8);
        faultIs("sign a 4 1;", 2, 7);
        faultIs("sign a 0 0;", 2, 9);
        faultIs("sign a 0 10;", 2, 9);
        faultIs("sign a 0 99999999999999999999;", 2, 9);
        faultIs("sign a 0 1;sign a 0 1;", 3, 16);
        faultIs("ratio 0;", 2, 6);
        faultIs("ratio 10;", 2, 6);
        faultIs("ratio x;", 1, 6);
        faultIs("most 7;", 2, 5);
        faultIs("most 31;", 2, 5);
        faultIs("ratio 1;ratio 0;", 3, 8);
        faultIs("most 8;most 8;", 3, 7);
        faultIs("axiom x=y;sign a 0 1;", 1, 10);
        faultIs("goal x=y;most 9;", 1, 9);
        faultIs("ratio 1;goal x=y;ratio 9;", 1, 17);
        faultIs("sign a 0 1;axiom a()=a;", 1, 18);
        faultIs("sign s 1 1;axiom s=s;", 1, 18);
        faultIs("sign s 1 1;axiom s()=x;", 1, 19);
        faultIs("sign s 1 1;axiom s(x,y)=x;", 1, 20);
        faultIs("sign m 2 1;axiom m(x)=x;", 1, 20);
        faultIs("sign m 2 1;axiom m(x y)=x;", 1, 21);
        faultIs("sign a 0 1;sign b 0 1;sign c 0 1;sign d 0 1;sign e 0 1;sign f 0 1;sign g 0 1;sign h 0 1;sign i 0 1;", 2, 88);
        faultIs("axiom x=x;axiom x=x;axiom x=x;axiom x=x;axiom x=x;axiom x=x;axiom x=x;axiom x=x;axiom x=x;", 2, 80);
        faultIs("goal x=x;goal x=x;goal x=x;goal x=x;goal", 2, 36);
        faultIs("sign q 3 1;axiom q(a,b,c)=q(d,e,q(f,g,a));", 2, 36);
        faultIs("sign s 1 1;axiom s(s(s(s(s(s(s(s(s(s(s(s(x))))))))))))=x;", 2, 41);
        CompletionLab x = lab("sign a 0 1;sign b 0 1;");
        due(4, "compare", compare(x, "a=b"), 2);
        due(4, "fault(0)", x.fault(0), 0);
        due(4, "-2 changes no FAULT", x.text(400), -2);
        due(4, "text with a fault", text(x, "z"), NONE);
        due(4, "-2 changes no FAULT", x.meet(400), -2);
        due(4, "fault(0)", x.fault(0), 1);
        due(4, "fault(1)", x.fault(1), 0);
        due(4, "fault(2)", x.fault(2), NONE);
        due(4, "fault(-1)", x.fault(-1), NONE);
        due(4, "normal with a fault", normal(x, "a b"), NONE);
        due(4, "fault(1)", x.fault(1), 2);
        due(4, "meet without one", meet(x, "a=b"), -3);
        due(4, "is no FAULT", x.fault(0), 0);
        due(4, "is no place", x.fault(1), NONE);
    }

    private static void steps() {
        CompletionLab x = lab(SUM);
        due(5, "step(0)", x.step(0), NONE);
        due(5, "step(21)", x.step(21), NONE);
        due(5, "step(-1)", x.step(-1), NONE);
        due(5, "step(1)", x.step(1), 1);
        due(5, "step(20)", x.step(20), 1);
        due(5, "step(20)", x.step(20), 0);
        due(5, "count(10)", x.count(10), 2);
        // by each RATIO-th STEP the oldest, else the smallest
        x = lab("sign a 0 1;sign b 0 1;sign f 1 1;ratio 2;axiom f(f(b))=f(b);axiom b=a;axiom f(a)=a;");
        due(5, "the smallest", x.next(), 1);
        x.step(1);
        due(5, "the oldest", x.next(), 0);
        x = lab(SUM.replace("axiom", "ratio 1;axiom").replaceFirst(";axiom p\\(s", ";axiom p(s").replace("x;ratio 1;", "x;"));
        due(5, "RATIO 1", x.next(), 0);
        // FULL: 201 EQUATIONS
        x = lab("sign m 2 1;sign e 0 1;ratio 1;axiom m(x,x)=e;axiom m(x,e)=x;axiom m(m(x,y),z)=m(x,m(y,z));");
        int done = 20;
        int all = 0;
        while (done == 20) {
            done = x.step(20);
            all += done;
        }
        due(5, "FULL", x.count(20), 1);
        due(5, "the last STEP is one", x.count(10), all);
        due(5, "EQUATIONS", x.count(5), 201);
        due(5, "step(1)", x.step(1), -2);
        due(5, "step(0)", x.step(0), NONE);
        due(5, "not FINISHED", x.count(21), 0);
        // FULL: 24 are ACTIVE; the one that was picked is GONE, as if TAKEN UP, and no more is made
        x = lab("sign z 0 1;sign s 1 1;sign p 2 1;sign t 2 2;axiom p(z,x)=x;axiom p(s(x),y)=s(p(x,y));axiom t(z,x)=z;"
                + "axiom t(s(x),y)=p(y,t(x,y));axiom p(x,y)=p(y,x);");
        due(5, "step(20)", x.step(20), 20);
        due(5, "step(9)", x.step(9), 9);
        due(5, "24 are ACTIVE", x.count(7) + x.count(8), 24);
        due(5, "not FULL yet", x.count(20), 0);
        int made = x.count(5);
        int next = x.next();
        due(5, "step(20)", x.step(20), 1);
        due(5, "FULL", x.count(20), 1);
        due(5, "none is made", x.count(5), made);
        due(5, "still 24", x.count(7) + x.count(8), 24);
        due(5, "the picked one is GONE", equation(x, next, 0), 3);
        due(5, "as if TAKEN UP", equation(x, next, 3), 0);
        due(5, "step(1)", x.step(1), -2);
    }

    private static void equations() {
        CompletionLab x = lab(COLLAPSE);
        equationIs(6, x, 0, 0, 3, 0, -2, 2, 0, 1, 1, 0, 0, -1002);
        due(6, "equation(2, 0)", equation(x, 2, 0), -1001);
        due(6, "equation(-1, 99)", equation(x, -1, 99), -1001);
        due(6, "equation(0, -1)", equation(x, 0, -1), -1002);
        due(6, "step(20)", x.step(20), 3);
        equationIs(6, x, 0, 3, 3, 0, 0, 2, 0, 1, 1, 0, 0);
        equationIs(6, x, 1, 3, 2, 0, 0, 2, 0, 1, 2, 0, 0);
        equationIs(6, x, 2, 3, 3, 2, 3, 2, 1, 1, 1, 1, 0);
        equationIs(6, x, 3, 1, 2, 2, -2, 2, 1, 1, 2, 2, 0);
        equationIs(6, x, 4, 3, 3, 3, 0, 3, 2, 2, 3, 2, 0);
        equationIs(6, x, 5, 1, 3, 2, -2, 2, 3, 2, 3, 3, 0);
        x = lab("sign a 0 1;axiom a=a;axiom x=x;");
        x.step(20);
        due(6, "JOINED", equation(x, 1, 3), 1);
        x = lab("sign a 0 1;sign f 1 1;sign g 2 1;axiom f(f(x))=x;axiom g(x,y)=g(y,x);axiom g(a,x)=g(x,a);");
        x.step(20);
        due(6, "SUBSUMED", equation(x, 2, 3), 2);
        due(6, "FLAT", equation(x, 4, 0), 2);
        due(6, "VARIABLES", equation(x, 1, 9), 2);
    }

    private static void sides() {
        CompletionLab x = lab(SUM);
        sideIs(7, x, 0, 0, 2, 0, 100);
        sideIs(7, x, 0, 1, 100);
        sideIs(7, x, 1, 0, 2, 1, 100, 101);
        sideIs(7, x, 1, 1, 1, 2, 100, 101);
        due(7, "code(0, 2, 0)", x.code(0, 2, 0), NONE);
        due(7, "code(0, -1, 0)", x.code(0, -1, 0), NONE);
        due(7, "code(2, 0, 0)", x.code(2, 0, 0), NONE);
        due(7, "code(-1, 0, 0)", x.code(-1, 0, 0), NONE);
        due(7, "code(0, 0, -1)", x.code(0, 0, -1), NONE);
        due(7, "code(0, 0, MAX)", x.code(0, 0, Integer.MAX_VALUE), -2);
        // the GREATER one becomes LEFT, VARIABLES get numbers anew
        x = lab("sign f 1 1;sign g 2 1;axiom f(y)=g(x,y);");
        sideIs(7, x, 0, 1, 1, 101, 100);
        x.step(1);
        sideIs(7, x, 1, 0, 1, 100, 101);
        sideIs(7, x, 1, 1, 0, 101);
    }

    private static void lines() {
        CompletionLab x = lab(TWICE_F);
        lineIs(8, x, 0, 0, 1, 1, 100);
        lineIs(8, x, 0, 1, 0, 100);
        byIs(9, x, 0, 1, 0, 1, 0);
        x.step(1);
        lineIs(8, x, 2, 0, 1, 0, 100);
        lineIs(8, x, 2, 1, 1, 1, 1, 100);
        lineIs(8, x, 2, 2, 0, 1, 100);
        due(8, "line(2, 3, 0)", x.line(2, 3, 0), NONE);
        due(8, "line(2, -1, 0)", x.line(2, -1, 0), NONE);
        due(8, "line(2, 0, -1)", x.line(2, 0, -1), NONE);
        due(8, "line(3, 0, 0)", x.line(3, 0, 0), NONE);
        due(8, "line(-1, 0, 0)", x.line(-1, 0, 0), NONE);
        byIs(9, x, 2, 1, 1, 0, 1);
        byIs(9, x, 2, 2, 1, 1, 0);
        due(9, "by(2, 0, 0)", x.by(2, 0, 0), NONE);
        due(9, "by(2, 3, 0)", x.by(2, 3, 0), NONE);
        due(9, "by(3, 1, 0)", x.by(3, 1, 0), NONE);
        due(9, "by(-1, 1, 0)", x.by(-1, 1, 0), NONE);
        x = lab(COLLAPSE);
        x.step(20);
        lineIs(8, x, 4, 0, 2, 0);
        lineIs(8, x, 4, 1, 2, 1);
        lineIs(8, x, 4, 2, 0);
        byIs(9, x, 4, 1, 3, 0, 1);
        byIs(9, x, 4, 2, 2, 1, 0);
        x = lab(COMPOSE);
        x.step(20);
        lineIs(8, x, 4, 0, 2, 0);
        lineIs(8, x, 4, 1, 1);
        lineIs(8, x, 4, 2, 0);
        byIs(9, x, 4, 1, 2, 1, 0);
        byIs(9, x, 4, 2, 3, 1, 0);
        byIs(9, x, 3, 1, 1, 0, 0);
    }

    private static void hanging() {
        CompletionLab x = lab(TWICE_F);
        x.step(20);
        due(10, "uses(3, 2)", x.uses(3, 2), 1);
        due(10, "uses(3, 0): through others", x.uses(3, 0), 1);
        due(10, "uses(2, 3)", x.uses(2, 3), 0);
        due(10, "uses(0, 0): itself isn't that", x.uses(0, 0), 0);
        due(10, "uses(1, 1)", x.uses(1, 1), 0);
        due(10, "uses(4, 0)", x.uses(4, 0), NONE);
        due(10, "uses(0, 4)", x.uses(0, 4), NONE);
        due(10, "uses(-1, 0)", x.uses(-1, 0), NONE);
        due(11, "users(0, 1)", x.users(0, 1), 2);
        due(11, "users(0, 3)", x.users(0, 3), 1);
        due(11, "users(0, 0)", x.users(0, 0), 0);
        due(11, "users(3, 1)", x.users(3, 1), 0);
        due(11, "users(0, 4)", x.users(0, 4), NONE);
        due(11, "users(0, -1)", x.users(0, -1), NONE);
        due(11, "users(4, 1)", x.users(4, 1), NONE);
        due(12, "inState(1, 0)", x.inState(1, 0), 1);
        due(12, "inState(1, 1)", x.inState(1, 1), 3);
        due(12, "inState(1, 2)", x.inState(1, 2), -2);
        due(12, "inState(3, 1)", x.inState(3, 1), 2);
        due(12, "inState(0, 0)", x.inState(0, 0), -2);
        due(12, "inState(4, 0)", x.inState(4, 0), NONE);
        due(12, "inState(-1, 0)", x.inState(-1, 0), NONE);
        due(12, "inState(1, -1)", x.inState(1, -1), NONE);
    }

    private static void nextOnes() {
        CompletionLab x = lab("sign a 0 1;sign b 0 1;sign c 0 1;sign f 1 1;ratio 3;"
                + "axiom f(f(a))=f(a);axiom f(b)=b;axiom c=b;axiom f(c)=f(b);");
        due(13, "the smallest", x.next(), 2);
        x.step(1);
        due(13, "of several the first", x.next(), 1);
        x.step(1);
        due(13, "by the third the least number", x.next(), 0);
        x.step(20);
        due(13, "none WAITS", x.next(), -2);
    }

    private static void goals() {
        CompletionLab x = lab(SUM);
        due(14, "goal(0, 0)", x.goal(0, 0), 0);
        due(14, "goal(0, 1)", x.goal(0, 1), 0);
        due(14, "goal(0, 3)", x.goal(0, 3), 5);
        due(16, "goalSources(0)", x.goalSources(0), -2);
        due(17, "meetsIn(0)", x.meetsIn(0), 2);
        due(17, "nothing changes", x.count(10) + x.count(9), 0);
        due(17, "meetsIn(1)", x.meetsIn(1), -2);
        x.step(20);
        int[] answers = {1, 2, 0, 3, 3};
        for (int what = 0; what < answers.length; what++) {
            due(14, "goal(0, " + what + ")", x.goal(0, what), answers[what]);
        }
        due(14, "goal(0, 5)", x.goal(0, 5), NONE);
        due(14, "goal(0, -1)", x.goal(0, -1), NONE);
        due(14, "goal(2, 0)", x.goal(2, 0), NONE);
        due(14, "goal(-1, 0)", x.goal(-1, 0), NONE);
        due(14, "goal(1, 0): VARIABLES as SIGNS", x.goal(1, 0), 0);
        due(15, "goalCode(0, 0, 0)", x.goalCode(0, 0, 0), 1);
        due(15, "goalCode(0, 0, 1)", x.goalCode(0, 0, 1), 1);
        due(15, "goalCode(0, 0, 2)", x.goalCode(0, 0, 2), 0);
        due(15, "goalCode(0, 1, 2)", x.goalCode(0, 1, 2), 0);
        due(15, "goalCode(0, 0, 3)", x.goalCode(0, 0, 3), -2);
        due(15, "goalCode(1, 1, 1)", x.goalCode(1, 1, 1), 100);
        due(15, "goalCode(0, 2, 0)", x.goalCode(0, 2, 0), NONE);
        due(15, "goalCode(0, -1, 0)", x.goalCode(0, -1, 0), NONE);
        due(15, "goalCode(2, 0, 0)", x.goalCode(2, 0, 0), NONE);
        due(15, "goalCode(0, 0, -1)", x.goalCode(0, 0, -1), NONE);
        due(16, "goalSources(0)", x.goalSources(0), 3);
        due(16, "goalSources(1)", x.goalSources(1), -2);
        due(16, "goalSources(2)", x.goalSources(2), NONE);
        due(16, "goalSources(-1)", x.goalSources(-1), NONE);
        due(17, "meetsIn(0)", x.meetsIn(0), 0);
        due(17, "meetsIn(1): FINISHED", x.meetsIn(1), -2);
        due(17, "meetsIn(2)", x.meetsIn(2), NONE);
        due(17, "meetsIn(-1)", x.meetsIn(-1), NONE);
        x = lab("goal x=x;goal x=y;");
        due(16, "of none", x.goalSources(0), 0);
        due(17, "now", x.meetsIn(0), 0);
        due(17, "never", x.meetsIn(1), -2);
        x = lab(GROUP);
        int n = x.meetsIn(0);
        due(17, "a goal of a group", n > 3 && n < 40 ? 1 : 0, 1);
        while (n > 20) {
            x.step(20);
            n -= 20;
        }
        x.step(n - 1);
        due(17, "one STEP ahead", x.goal(0, 0), 0);
        due(17, "one STEP ahead", x.meetsIn(0), 1);
        x.step(1);
        due(17, "that STEP", x.goal(0, 0), 1);
        due(17, "not in 40 STEPS", x.meetsIn(1), -2);
        // this one MEETS behind 41 STEPS
        x = lab("sign e 0 1;sign m 2 1;sign i 1 1;ratio 3;axiom m(e,x)=x;axiom m(i(x),x)=e;axiom m(m(x,y),z)=m(x,m(y,z));"
                + "goal i(m(a,b))=m(i(b),i(a));");
        due(17, "41 are too many", x.meetsIn(0), -2);
        x.step(1);
        due(17, "40 are not", x.meetsIn(0), 40);
    }

    private static void normals() {
        CompletionLab x = lab(SUM);
        due(19, "none was read", x.told(0, 0), NONE);
        x.step(20);
        feed(x, "p(s(z),u)   a");
        due(18, "normal(-1)", x.normal(-1), -2);
        due(18, "normal(21)", x.normal(21), -2);
        due(18, "normal(10)", x.normal(10), 2);
        due(18, "uses up ten", x.count(23), 10);
        int[][] lines = {{2, 1, 0, 100}, {1, 2, 0, 100}, {1, 100}};
        for (int line = 0; line < 3; line++) {
            for (int i = 0; i < lines[line].length; i++) {
                due(19, "told(" + line + ", " + i + ")", x.told(line, i), lines[line][i]);
            }
            due(19, "told(" + line + ", beyond)", x.told(line, lines[line].length), -2);
        }
        int[][] made = {{-2, -2, -2}, {3, 0, 0}, {2, 1, 0}};
        for (int line = 0; line < 3; line++) {
            due(19, "told(" + line + ", -1)", x.told(line, -1), made[line][0]);
            due(19, "told(" + line + ", -3)", x.told(line, -3), made[line][1]);
            due(19, "told(" + line + ", -4)", x.told(line, -4), made[line][2]);
        }
        due(19, "told(3, 0)", x.told(3, 0), -2);
        due(19, "told(3, -1)", x.told(3, -1), -2);
        due(19, "told(-1, 0)", x.told(-1, 0), NONE);
        due(19, "told(0, -2)", x.told(0, -2), NONE);
        due(19, "told(0, -5)", x.told(0, -5), NONE);
        due(19, "told(9, -5)", x.told(9, -5), NONE);
        due(18, "normal(9)", x.normal(9), 1);
        due(19, "told(1, 0)", x.told(1, 0), -2);
        due(18, "a FAULT uses up, too", x.normal(1), NONE);
        due(18, "count(23)", x.count(23), 0);
        due(18, "fault(1)", x.fault(1), 1);
        due(19, "the one without a FAULT stays", x.told(0, 0), 100);
        due(18, "normal(0)", x.normal(0), NONE);
        feed(x, "zs");
        due(18, "the first byte alone", x.normal(1), 1);
        due(19, "it is z", x.told(0, 0), 0);
        due(18, "all that is left", x.normal(19), NONE);
        due(18, "no bracket", x.fault(1), 19);
        due(18, "two TERMS", normal(x, "z z"), NONE);
        due(18, "fault(1)", x.fault(1), 2);
        // a FLAT one is used where what comes is less, by either WAY
        x = lab(SWAP);
        x.step(3);
        due(18, "normal", normal(x, "p(b,p(b,a))"), 5);
        due(19, "told(1, -1)", x.told(1, -1), 1);
        due(19, "told(1, -3)", x.told(1, -3), 2);
        due(19, "told(1, -4)", x.told(1, -4), 0);
        due(19, "told(1, 3)", x.told(1, 3), 0);
        due(19, "told(2, 0)", x.told(2, 0), -2);
        due(18, "VARIABLES aren't less", normal(x, "p(y,x)"), 3);
        due(19, "told(1, 0)", x.told(1, 0), -2);
        text(x, "");
        due(19, "all anew", x.told(0, 0), NONE);
        // thirty times at most: six of g over five of f are thirty; that g(e) could be e comes too late
        x = lab("sign e 0 1;sign f 1 1;sign g 1 1;axiom g(f(x))=f(g(x));axiom g(e)=e;goal g(g(g(g(g(g(f(f(f(f(f(e)))))))))))=e;");
        x.step(20);
        due(18, "normal", normal(x, "g(g(g(g(g(g(f(f(f(f(f(e)))))))))))"), 12);
        due(19, "told(30, 4)", x.told(30, 4), 1);
        due(19, "told(30, 5)", x.told(30, 5), 2);
        due(19, "told(31, 0)", x.told(31, 0), -2);
        due(14, "thirty STEPS away", x.goal(0, 1), 30);
        due(18, "normal", normal(x, "g(g(g(g(g(f(f(f(f(f(e))))))))))"), 6);
        // c becomes eight CODES: seven of them and four more make 60, and five more would make 61
        x = lab("sign a 0 1;sign f 1 1;sign g 2 1;sign q 3 1;sign c 0 9;axiom c=f(g(a,g(a,g(a,a))));");
        x.step(1);
        due(18, "60 CODES", normal(x, "f(q(c,c,q(c,c,q(c,c,c))))"), 60);
        due(18, "never more", normal(x, "f(f(q(c,c,q(c,c,q(c,c,c)))))"), 54);
        due(19, "told(6, 53)", x.told(6, 53), 4);
    }

    private static void compares() {
        CompletionLab x = lab("sign a 0 1;sign b 0 1;sign f 1 1;sign g 2 1;sign h 1 5;");
        due(20, "alike", compare(x, "f(x)=f(x)"), 0);
        due(20, "WEIGHT", compare(x, "f(x)=x"), 1);
        due(20, "WEIGHT", compare(x, "x=f(x)"), 2);
        due(20, "VARIABLES", compare(x, "f(x)=y"), 3);
        due(20, "VARIABLES more often", compare(x, "h(x)=g(x,x)"), 3);
        due(20, "first SIGNS", compare(x, "f(a)=f(b)"), 2);
        due(20, "of the same WEIGHT the greater number", compare(x, "b=a"), 1);
        due(20, "WEIGHT ahead of numbers", compare(x, "h(a)=g(a,f(f(b)))"), 1);
        due(20, "a VARIABLE of the same WEIGHT", compare(x, "x=a"), 3);
        due(20, "the first TERMS unlike", compare(x, "g(b,f(a))=g(f(a),b)"), 2);
        due(20, "the first TERMS unlike", compare(x, "g(x,b)=g(y,a)"), 3);
        due(20, "the first TERMS unlike", compare(x, "g(x,b)=g(x,a)"), 1);
        due(20, "the first TERMS unlike", compare(x, "g(x,g(y,z))=g(g(x,y),z)"), 2);
        due(20, "compare(-1)", x.compare(-1), -2);
        due(20, "compare(1)", x.compare(1), -2);
        due(20, "one alone", compare(x, "a"), NONE);
        due(20, "its place", x.fault(1), 20);
        due(20, "used up", x.count(23), 0);
        feed(x, "a=b,b=a");
        due(20, "compare(3)", x.compare(3), 2);
        due(20, "count(23)", x.count(23), 17);
        due(20, "a comma", x.compare(1), NONE);
        due(20, "compare(3)", x.compare(3), 1);
    }

    private static void meets() {
        CompletionLab x = lab("sign a 0 1;sign f 1 1;sign g 2 1;");
        due(22, "there was none", x.met(0), -2);
        due(22, "met(-1)", x.met(-1), NONE);
        due(21, "meet", meet(x, "g(x,f(y))=g(f(z),z)"), 6);
        int[] codes = {2, 1, 1, 101, 1, 101};
        for (int i = 0; i < codes.length; i++) {
            due(22, "met(" + i + ")", x.met(i), codes[i]);
        }
        due(22, "met(6)", x.met(6), -2);
        due(22, "met(-1)", x.met(-1), NONE);
        due(21, "a FAULT", meet(x, "f(x)"), NONE);
        due(22, "the latest without a FAULT", x.met(0), 2);
        due(21, "-2", x.meet(1), -2);
        due(21, "-2", x.meet(-1), -2);
        due(21, "the same VARIABLES", meet(x, "x=f(x)"), -3);
        due(22, "there is none", x.met(0), -2);
        due(21, "around", meet(x, "g(x,y)=g(f(y),f(x))"), -3);
        due(21, "other SIGNS", meet(x, "f(x)=g(x,y)"), -3);
        due(21, "the least number stays", meet(x, "g(x,g(y,z))=g(z,g(x,y))"), 5);
        due(22, "met(1)", x.met(1), 100);
        due(22, "met(4)", x.met(4), 100);
        due(21, "the least number stays", meet(x, "g(g(x,y),z)=g(z,g(y,x))"), 7);
        due(22, "met(2)", x.met(2), 100);
        due(22, "met(6)", x.met(6), 100);
        due(21, "variables alone", meet(x, "x=y"), 1);
        due(22, "met(0)", x.met(0), 100);
        due(21, "a 13th CODE", meet(x, "g(u,g(v,g(w,x)))=g(g(v,v),g(g(w,w),g(g(x,x),a)))"), NONE);
        x = lab("sign a 0 1;sign g 2 1;sign q 3 1;");
        due(21, "60 CODES", meet(x, "q(x,y,q(u,a,g(a,a)))=q(q(y,y,y),g(z,z),z)"), 60);
        due(22, "met(59)", x.met(59), 0);
        due(22, "met(60)", x.met(60), -2);
        due(21, "61 CODES", meet(x, "g(x,g(y,q(u,a,g(a,a))))=g(q(y,y,y),g(g(z,z),z))"), -3);
        due(22, "met(0)", x.met(0), -2);
        due(21, "a row that doubles", meet(x, "q(x,y,q(u,u,u))=q(q(y,y,y),q(z,z,z),z)"), 58);
    }

    private static void overlapping() {
        CompletionLab x = lab(TWICE_F + "");
        due(23, "of a WAITING one", x.overlaps(0, 0), 1);
        x.step(1);
        due(23, "overlaps(1, 1)", x.overlaps(1, 1), 1);
        int[] answers = {0, 0, 1, 4, 3, 3, 0};
        for (int what = 0; what < answers.length; what++) {
            due(24, "overlap(1, 1, 0, " + what + ")", x.overlap(1, 1, 0, what), answers[what]);
        }
        due(24, "overlap(1, 1, 1, 0)", x.overlap(1, 1, 1, 0), -2);
        due(24, "overlap(1, 1, 1, 7)", x.overlap(1, 1, 1, 7), NONE);
        due(24, "overlap(1, 1, 0, -1)", x.overlap(1, 1, 0, -1), NONE);
        due(24, "overlap(1, 1, -1, 0)", x.overlap(1, 1, -1, 0), NONE);
        due(24, "overlap(9, 1, 0, 0)", x.overlap(9, 1, 0, 0), NONE);
        due(24, "overlap(1, 9, 0, 0)", x.overlap(1, 9, 0, 0), NONE);
        due(23, "overlaps(-1, 0)", x.overlaps(-1, 0), NONE);
        due(23, "overlaps(0, 3)", x.overlaps(0, 3), NONE);
        due(23, "of a GONE one, PLACE 0 by another", x.overlaps(0, 1), 2);
        x.step(1);
        due(24, "they MEET now", x.overlap(1, 1, 0, 6), 1);
        // WAYS: by RIGHT alone where it is GREATER
        x = lab("sign g 1 1;sign f 1 1;axiom g(x)=f(f(x));axiom f(x)=f(y);axiom x=g(y);");
        due(23, "overlaps(0, 0)", x.overlaps(0, 0), 1);
        due(24, "its WAY", x.overlap(0, 0, 0, 0), 1);
        due(24, "its WAY", x.overlap(0, 0, 0, 1), 1);
        due(24, "the PLACE", x.overlap(0, 0, 0, 2), 1);
        x = lab(SWAP);
        due(23, "by both WAYS", x.overlaps(0, 0), 2);
        due(24, "its WAY", x.overlap(0, 0, 0, 0), 0);
        due(24, "its WAY", x.overlap(0, 0, 0, 1), 1);
        due(24, "its WAY", x.overlap(0, 0, 1, 0), 1);
        due(24, "its WAY", x.overlap(0, 0, 1, 1), 0);
        due(24, "alike", x.overlap(0, 0, 0, 6), 1);
        // what would be GREATER than its from side is none
        x = lab("sign a 0 1;sign b 0 1;sign p 2 1;axiom p(x,y)=p(y,x);axiom p(a,b)=a;axiom p(b,a)=b;");
        due(23, "p(a,b) by the FLAT one: p(b,a) is GREATER", x.overlaps(1, 0), 0);
        due(23, "p(b,a) by the FLAT one", x.overlaps(2, 0), 2);
        // 60 CODES, and more
        x = lab("sign a 0 1;sign g 2 1;sign q 3 1;axiom q(y,y,q(y,g(z,z),z))=a;axiom q(w,w,q(w,w,q(u,a,g(a,a))))=g(w,a);"
                + "axiom q(g(y,y),g(y,g(z,z)),z)=a;axiom q(x,g(w,w),q(u,a,g(a,a)))=q(x,x,w);");
        due(23, "overlaps(0, 1)", x.overlaps(0, 1), 1);
        due(24, "the PLACE", x.overlap(0, 1, 0, 2), 0);
        due(24, "PEAK of 60", x.overlap(0, 1, 0, 3), 60);
        due(24, "g(w,a)", x.overlap(0, 1, 0, 4), 15);
        due(24, "a", x.overlap(0, 1, 0, 5), 1);
        due(24, "they don't MEET", x.overlap(0, 1, 0, 6), 0);
        due(23, "overlaps(2, 3)", x.overlaps(2, 3), 2);
        due(24, "by the other WAY", x.overlap(2, 3, 1, 1), 1);
        due(24, "its PEAK", x.overlap(2, 3, 1, 3), 16);
        due(24, "PEAK of 61", x.overlap(2, 3, 0, 3), 61);
        due(24, "q(x,x,w)", x.overlap(2, 3, 0, 4), 61);
        due(24, "a", x.overlap(2, 3, 0, 5), 1);
        due(24, "one has 61", x.overlap(2, 3, 0, 6), 0);
        x = lab("sign a 0 1;sign g 2 1;sign q 3 1;axiom q(g(y,y),g(y,g(z,z)),z)=a;axiom q(x,g(w,w),q(u,a,g(a,a)))=g(w,a);");
        due(23, "a PEAK of 61 makes an OVERLAP, too", x.overlaps(0, 1), 1);
        due(24, "PEAK of 61", x.overlap(0, 1, 0, 3), 61);
        due(24, "g(w,a)", x.overlap(0, 1, 0, 4), 15);
    }

    private static void opens() {
        CompletionLab x = lab(TWICE_F);
        due(25, "none is ACTIVE", x.open(1), 0);
        x.step(1);
        due(25, "open(0)", x.open(0), 1);
        due(25, "open(1)", x.open(1), 1);
        x.step(1);
        due(25, "open(0)", x.open(0), 0);
        due(25, "open(1)", x.open(1), 2);
        due(25, "open(2)", x.open(2), 0);
        due(25, "open(3)", x.open(3), NONE);
        due(25, "open(-1)", x.open(-1), NONE);
        // g(h(x),x) and g(y,h(a)) have the PEAK g(h(h(a)),h(a)), where h(h(a)) fits at PLACE 1
        x = lab("sign a 0 1;sign b 0 1;sign h 1 1;sign g 2 1;ratio 1;axiom h(h(a))=b;axiom g(h(x),x)=a;axiom g(y,h(a))=b;");
        x.step(2);
        due(31, "CONNECTED", x.count(16), 0);
        x.step(1);
        due(31, "CONNECTED", x.count(16), 2);
        due(25, "open(0)", x.open(0), 3);
        due(25, "open(1): CONNECTED ones, too", x.open(1), 3);
        due(25, "open(2)", x.open(2), 2);
        x.step(1);
        due(25, "open(0)", x.open(0), 0);
        due(25, "open(2)", x.open(2), 2);
        // six VARIABLES for f(a), and six around it are twelve; another six are too many
        x = lab("sign a 0 1;sign f 1 9;sign g 2 1;sign q 3 1;ratio 1;axiom f(a)=g(q(x,y,z),q(u,v,w));"
                + "axiom q(g(x,y),q(z,u,v),g(w,f(a)))=a;");
        x.step(2);
        due(6, "twelve VARIABLES", equation(x, 4, 9), 12);
        due(31, "not TOO BIG", x.count(15), 0);
        due(31, "they came to WAIT", x.count(19), 5);
        // its PEAK has 9 CODES
        x = lab("sign m 2 1;most 8;axiom m(m(x,x),y)=y;");
        x.step(1);
        due(31, "TOO BIG", x.count(15), 1);
        due(23, "it is an OVERLAP", x.overlaps(1, 1), 1);
        due(25, "TOO BIG ones are left out", x.open(1), 0);
        x = lab("sign m 2 1;most 9;axiom m(m(x,x),y)=y;");
        x.step(1);
        due(31, "not TOO BIG", x.count(15), 0);
        due(25, "open(1)", x.open(1), 1);
    }

    private static void ahead() {
        CompletionLab x = lab(SUM);
        due(26, "ACTIVE", x.ifStep(1, 0), 1);
        due(26, "WAITING", x.ifStep(1, 1), 1);
        due(26, "EQUATIONS", x.ifStep(1, 2), 3);
        due(26, "FINISHED", x.ifStep(1, 3), 0);
        due(26, "FINISHED", x.ifStep(20, 3), 1);
        due(26, "FULL", x.ifStep(20, 4), 0);
        due(26, "EQUATIONS", x.ifStep(20, 2), 4);
        due(26, "nothing changes", x.count(5) + x.count(10), 2);
        due(26, "next()", x.next(), 0);
        due(26, "ifStep(0, 0)", x.ifStep(0, 0), NONE);
        due(26, "ifStep(21, 0)", x.ifStep(21, 0), NONE);
        due(26, "ifStep(1, 5)", x.ifStep(1, 5), NONE);
        due(26, "ifStep(1, -1)", x.ifStep(1, -1), NONE);
        x = lab("sign m 2 1;sign e 0 1;ratio 1;axiom m(x,x)=e;axiom m(x,e)=x;axiom m(m(x,y),z)=m(x,m(y,z));");
        x.step(20);
        x.step(20);
        due(26, "FULL", x.ifStep(20, 4), 1);
        due(26, "EQUATIONS", x.ifStep(20, 2), 201);
        due(26, "not FULL now", x.count(20), 0);
        int waiting = x.ifStep(20, 1);
        x.step(20);
        due(26, "WAITING", x.count(6), waiting);
        due(26, "of a FULL one", x.ifStep(3, 4), 1);
    }

    private static void axiomsAndOrders() {
        CompletionLab x = lab(SUM);
        due(27, "none is ACTIVE", x.needed(), -2);
        x.step(1);
        due(27, "needed()", x.needed(), 1);
        x.step(1);
        due(27, "needed()", x.needed(), 0);
        x = lab(COMPOSE);
        x.step(20);
        due(27, "in SOURCES of all", x.needed(), 2);
        due(28, "turnedRank()", x.turnedRank(), 0);
        due(28, "of no axioms", new CompletionLab().turnedRank(), 0);
        due(29, "no SIGNS", new CompletionLab().bestWeight(), NONE);
        due(29, "the first", x.bestWeight(), 0);
        x = lab(SWAP);
        due(28, "neither side", x.turnedRank(), 1);
        // g(f(x)), f(g(y)) of one VARIABLE: numbers turn it; x on both sides alone doesn't
        x = lab("sign f 1 1;sign g 2 1;sign h 2 1;axiom g(x,y)=h(x,x);axiom f(f(x))=g(x,y);axiom f(h(x,y))=g(f(y),x);");
        due(28, "turnedRank()", x.turnedRank(), 2);
        // f(x) = m(x,x) less one: only m's WEIGHT doesn't help, f's neither
        x = lab("sign a 0 1;sign b 0 1;sign f 1 1;axiom x=a;axiom f(x)=f(a);");
        due(29, "bestWeight()", x.bestWeight(), 0);
        x = lab("sign c 0 1;sign f 1 1;sign g 2 1;sign h 1 1;axiom h(g(x,y))=g(f(y),x);axiom g(f(x),y)=g(x,f(y));");
        due(29, "bestWeight()", x.bestWeight(), 0);
        x = lab("sign a 0 1;sign h 1 1;sign g 2 1;axiom g(h(x),y)=g(y,g(x,a));axiom g(x,h(y))=g(y,h(x));");
        due(29, "bestWeight()", x.bestWeight(), 0);
        // g(x,h(y)) by h alone is not turned; f(x,x) = h(h(x)): of the same WEIGHT 3, by numbers
        x = lab("sign k 2 1;sign h 1 1;sign g 2 1;axiom g(g(x,y),h(x))=k(g(x,x),g(y,y));axiom h(h(h(h(x))))=g(x,x);");
        due(28, "turnedRank()", x.turnedRank(), 1);
        due(29, "WEIGHTS stay", x.sign(0, 1), 1);
    }

    private static void signs() {
        CompletionLab x = lab("sign zero 0 9;sign abcdef 3 1;sign f 1 2;axiom f(f(x))=f(x);axiom abcdef(x,y,zero)=abcdef(y,x,zero);");
        due(30, "ARITY", x.sign(1, 0), 3);
        due(30, "WEIGHT", x.sign(0, 1), 9);
        due(30, "letters", x.sign(0, 3), 4);
        due(30, "letters", x.sign(1, 3), 6);
        due(30, "letters", x.sign(2, 3), 1);
        due(30, "sides of ACTIVE ones", x.sign(2, 2), 0);
        x.step(20);
        due(30, "sides of ACTIVE ones", x.sign(2, 2), 2);
        due(30, "sides of ACTIVE ones", x.sign(0, 2), 2);
        due(30, "sign(3, 0)", x.sign(3, 0), NONE);
        due(30, "sign(-1, 0)", x.sign(-1, 0), NONE);
        due(30, "sign(0, 4)", x.sign(0, 4), NONE);
        due(30, "sign(0, -1)", x.sign(0, -1), NONE);
    }

    private static void countsAre(CompletionLab x, int... counts) {
        for (int what = 0; what < counts.length; what++) {
            due(31, "count(" + what + ")", x.count(what), counts[what]);
        }
        due(31, "count(24)", x.count(24), NONE);
        due(31, "count(-1)", x.count(-1), NONE);
        due(31, "count(MAX)", x.count(Integer.MAX_VALUE), NONE);
    }

    private static void counts() {
        CompletionLab x = lab(TWICE_F);
        countsAre(x, 2, 4, 20, 1, 0, 1, 1, 0, 0, 0, 0, 0, 0, 0, 0, 0, 0, 0, 0, 0, 0, 0, 0, 0);
        x.step(1);
        countsAre(x, 2, 4, 20, 1, 0, 3, 1, 1, 0, 1, 1, 0, 0, 0, 0, 0, 0, 0, 0, 1, 0, 0, 0, 0);
        x.step(1);
        countsAre(x, 2, 4, 20, 1, 0, 4, 0, 2, 0, 2, 2, 0, 0, 0, 0, 0, 0, 1, 0, 1, 0, 1, 0, 0);
        x = lab(COLLAPSE);
        x.step(20);
        countsAre(x, 3, 1, 20, 2, 0, 6, 0, 2, 0, 4, 3, 0, 0, 1, 0, 0, 0, 0, 0, 0, 0, 1, 0, 0);
        x = lab(COMPOSE + "goal f(b)=f(a);");
        x.step(20);
        feed(x, "a");
        countsAre(x, 3, 1, 20, 2, 1, 5, 0, 2, 0, 3, 2, 0, 0, 0, 1, 0, 0, 0, 0, 0, 0, 1, 1, 20);
        x = lab(SWAP);
        x.step(20);
        countsAre(x, 3, 4, 20, 1, 1, 2, 0, 0, 1, 1, 1, 0, 0, 0, 0, 0, 0, 2, 0, 0, 0, 1, 1, 0);
        x = lab(GROUP);
        x.step(20);
        due(31, "all pairs are told once", x.count(5), 3 + x.count(19) + x.count(13) + x.count(14)
                + x.count(10) - x.count(11) - x.count(12));
        due(31, "states", x.count(6) + x.count(7) + x.count(8) + x.count(9), x.count(5));
    }

    public static void main(String[] args) {
        newObject();
        tapes();
        texts();
        faults();
        steps();
        equations();
        sides();
        lines();
        hanging();
        nextOnes();
        goals();
        normals();
        compares();
        meets();
        overlapping();
        opens();
        ahead();
        axiomsAndOrders();
        signs();
        counts();
        System.out.println("PromiseTest: " + passed + " as due, " + wrong + " not");
        if (wrong > 0) {
            System.exit(1);
        }
    }
}
