import java.util.ArrayList;
import java.util.List;
import java.util.NoSuchElementException;

/**
 * Each sentence of the document that names a boundary case (too small, too large, empty, full, a wrap-around, a
 * refused call and what it leaves as it was) has a test of its own here; what is wrong is told with the sentence.
 */
public final class BoundaryTest {
    private static final int NONE = -1;
    private static final int IOOBE = -1001;
    private static final int NSEE = -1002;
    private static final int MAX = Integer.MAX_VALUE;
    private static final int MIN = Integer.MIN_VALUE;

    private static final String EIGHT = "sign a 0 1;sign b 0 1;sign c 0 1;sign d 0 1;sign e 0 1;sign f 0 1;sign g 0 1;sign h 0 1;";
    private static final String SOME = "sign a 0 1;sign f 1 1;sign g 2 1;sign q 3 1;";
    private static final String SUM = "sign z 0 1;sign s 1 1;sign p 2 1;axiom p(z,x)=x;axiom p(s(x),y)=s(p(x,y));"
            + "goal p(s(z),s(z))=s(s(z));goal x=s(x);";

    private static int passed = 0;
    private static int wrong = 0;
    private static String sentence = "";

    /** The sentence that what follows would break. */
    private static void says(String words) {
        sentence = words;
    }

    private static void due(String call, int got, int want) {
        if (got == want) {
            passed++;
        } else {
            wrong++;
            System.out.println("\"" + sentence + "\": " + call + " answered " + got + ", due is " + want);
        }
    }

    private static void holds(String what, boolean holds) {
        due(what, holds ? 1 : 0, 1);
    }

    // ---- calls

    private static int feed(CompletionLab x, String text) {
        int size = x.count(23);
        for (int i = 0; i < text.length(); i += 20) {
            int[] part = new int[5];
            for (int k = 0; k < 20; k++) {
                int c = i + k < text.length() ? text.charAt(i + k) : ' ';
                part[k / 4] = part[k / 4] << 8 | c & 255;
            }
            size = x.feed(part[0], part[1], part[2], part[3], part[4]);
        }
        return size;
    }

    private static int text(CompletionLab x, String text) {
        feed(x, text);
        return x.text(text.length());
    }

    private static CompletionLab lab(String text) {
        CompletionLab x = new CompletionLab();
        if (text(x, text) < 0) {
            wrong++;
            System.out.println("fault " + x.fault(0) + " at " + x.fault(1) + ": " + text);
        }
        return x;
    }

    private static CompletionLab lab(String text, int steps) {
        CompletionLab x = lab(text);
        step(x, steps);
        return x;
    }

    private static void step(CompletionLab x, int steps) {
        for (int rest = steps; rest > 0; rest -= 20) {
            x.step(Math.min(20, rest));
        }
    }

    /** All that the TAPE has, which is the TERM and blanks. */
    private static int normal(CompletionLab x, String term) {
        feed(x, term);
        return x.normal(x.count(23));
    }

    private static int compare(CompletionLab x, String terms) {
        feed(x, terms);
        return x.compare(x.count(23));
    }

    private static int meet(CompletionLab x, String terms) {
        feed(x, terms);
        return x.meet(x.count(23));
    }

    private static int equation(CompletionLab x, int k, int what) {
        try {
            return x.equation(k, what);
        } catch (IndexOutOfBoundsException e) {
            return e.getClass() == IndexOutOfBoundsException.class ? IOOBE : -2000;
        } catch (NoSuchElementException e) {
            return NSEE;
        }
    }

    private static void equationIs(CompletionLab x, int k, int... answers) {
        for (int what = 0; what < answers.length; what++) {
            due("equation(" + k + ", " + what + ")", equation(x, k, what), answers[what]);
        }
    }

    private static void sidesAre(CompletionLab x, int k, int[] left, int[] right) {
        for (int side = 0; side < 2; side++) {
            int[] codes = side == 0 ? left : right;
            for (int i = 0; i <= codes.length; i++) {
                due("code(" + k + ", " + side + ", " + i + ")", x.code(k, side, i), i < codes.length ? codes[i] : -2);
            }
        }
    }

    private static void lineIs(CompletionLab x, int k, int line, int... codes) {
        for (int i = 0; i <= codes.length; i++) {
            due("line(" + k + ", " + line + ", " + i + ")", x.line(k, line, i), i < codes.length ? codes[i] : -2);
        }
    }

    private static void byIs(CompletionLab x, int k, int line, int... answers) {
        for (int what = 0; what < 3; what++) {
            due("by(" + k + ", " + line + ", " + what + ")", x.by(k, line, what), answers[what]);
        }
    }

    private static void counts(CompletionLab x, int what, int want) {
        due("count(" + what + ")", x.count(what), want);
    }

    private static int[] codes(int... codes) {
        return codes;
    }

    /** n SIGNS of ARITY 1 round a TERM. */
    private static String round(String sign, int n, String term) {
        StringBuilder b = new StringBuilder();
        for (int i = 0; i < n; i++) {
            b.append(sign).append('(');
        }
        b.append(term);
        for (int i = 0; i < n; i++) {
            b.append(')');
        }
        return b.toString();
    }

    /** What can be seen of an object with some 40 calls, but for the TAPE and the FAULT. */
    private static List<Integer> seen(CompletionLab x) {
        List<Integer> all = new ArrayList<>();
        for (int what = 0; what < 23; what++) {
            all.add(x.count(what));
        }
        all.add(x.next());
        all.add(x.needed());
        all.add(x.sign(0, 1));
        for (int i = 0; i < 4; i++) {
            all.add(x.told(0, i));
            all.add(x.met(i));
            all.add(x.inState(3, i));
        }
        return all;
    }

    // ---- the TAPE and the TEXT

    private static void tapes() {
        says("Twenty bytes come behind the TAPE; NONE, and none come, if it would have more than 900");
        CompletionLab x = new CompletionLab();
        for (int n = 1; n <= 45; n++) {
            due("feed", x.feed(0x61202020, 0x20202020, 0x20202020, 0x20202020, 0x2020200a), 20 * n);
        }
        due("feed beyond 900", x.feed(0x7a7a7a7a, 0, 0, 0, 0), NONE);
        due("feed beyond 900", x.feed(MIN, MAX, -1, 0, 1), NONE);
        counts(x, 23, 900);
        due("normal(19)", x.normal(19), 1);
        counts(x, 23, 881);
        due("feed: 901 would be", x.feed(0, 0, 0, 0, 0), NONE);
        counts(x, 23, 881);
        due("normal(1)", x.normal(1), NONE);
        due("feed: 900", x.feed(0x62202020, 0x20202020, 0x20202020, 0x20202020, 0x20202020), 900);
        due("feed: 920 would be", x.feed(0, 0, 0, 0, 0), NONE);
        due("the last twenty stand behind", x.normal(880), NONE);
        due("at the second a", x.fault(1), 20);
        due("b alone is left", x.normal(20), 1);
        counts(x, 23, 0);
        says("four of each number, the highest first");
        due("feed", x.feed(0x61623d61, 0x623d2020, 0x20202020, 0x20202020, 0x20202020), 20);
        due("ab=ab=", x.compare(5), 0);
        due("=", x.normal(1), NONE);
        counts(x, 23, 14);
        due("blanks alone", x.normal(14), NONE);
        due("their length", x.fault(1), 14);
        due("feed(-1 ..): bytes of 255 are no blanks", x.feed(-1, -1, -1, -1, -1), 20);
        due("normal(1)", x.normal(1), NONE);
        due("fault(1)", x.fault(1), 0);
        due("feed: the lowest byte last", x.feed(0, 0, 0, 0, 0x00000078), 39);
        due("normal(38)", x.normal(38), NONE);
        due("x", x.normal(1), 1);
        says("A new object: No SIGNS; an empty TAPE");
        x = new CompletionLab();
        due("text(0)", x.text(0), 0);
        due("text(1)", x.text(1), -2);
        counts(x, 0, 0);
        counts(x, 23, 0);
        due("sign(0, 0)", x.sign(0, 0), NONE);
    }

    private static void texts() {
        CompletionLab x = lab(SUM, 1);
        normal(x, "s(s(p(z,z)))");
        meet(x, "s(x)=y");
        List<Integer> before = seen(x);
        feed(x, "sign a 0 1;sign b 0 1;");
        says("text: -2, and the TAPE stays: there are not so many, n is below 0");
        for (int n : new int[] {-1, MIN, 41, 900, 901, MAX}) {
            due("text(" + n + ")", x.text(n), -2);
            counts(x, 23, 40);
        }
        due("what was said ahead stands", seen(x).equals(before) ? 1 : 0, 1);
        due("fault(0)", x.fault(0), 0);
        says("text: NONE with a FAULT, all else stays (the TAPE is empty then)");
        due("text(10)", x.text(10), NONE);
        counts(x, 23, 0);
        holds("all else stays", seen(x).equals(before));
        due("fault(0)", x.fault(0), 1);
        due("fault(1)", x.fault(1), 10);
        feed(x, "sign a 0 1;ratio 9;most 9;axiom a=a;ratio 9;");
        due("a FAULT behind much that is fine", x.text(44), NONE);
        holds("all else stays", seen(x).equals(before));
        due("step(1) goes on", x.step(1), 1);
        counts(x, 10, 2);
        says("text: all anew");
        due("text(0) of an empty TAPE", x.text(0), 0);
        int[] none = {0, 4, 20, 0, 0, 0, 0, 0, 0, 0, 0, 0, 0, 0, 0, 0, 0, 0, 0, 0, 0, 1, 0, 0};
        for (int what = 0; what < none.length; what++) {
            counts(x, what, none[what]);
        }
        due("told(0, 0)", x.told(0, 0), NONE);
        due("met(0)", x.met(0), -2);
        due("needed()", x.needed(), -2);
        due("goal(0, 0)", x.goal(0, 0), NONE);
        due("equation(0, 0)", equation(x, 0, 0), IOOBE);
        text(x, "ratio 9;most 30;");
        counts(x, 1, 9);
        counts(x, 2, 30);
        text(x, "sign a 0 1;");
        says("RATIO 1 .. 9 (4 at first), MOST 8 .. 30 (20 at first)");
        counts(x, 1, 4);
        counts(x, 2, 20);
        says("the TAPE's first n bytes are the TEXT (it is empty then)");
        feed(x, "sign a 0 1;sign b 0 1;");
        due("text(11)", x.text(11), 1);
        counts(x, 0, 1);
        counts(x, 23, 0);
        says("a TEXT of 900 bytes, all that the TAPE has");
        StringBuilder whole = new StringBuilder("goal x=x;goal x=x;goal x=x;");
        whole.append(" ".repeat(899 - whole.length() - 8)).append("goal x=x;");
        x = new CompletionLab();
        due("feed", feed(x, whole.toString()), 900);
        due("text(901)", x.text(901), -2);
        due("text(900)", x.text(900), 4);
        counts(x, 23, 0);
        feed(x, whole.toString());
        due("text(899)", x.text(899), NONE);
        due("the last ';' lacks", x.fault(1), 899);
    }

    // ---- FAULTS

    private static void fine(String text, int lines) {
        CompletionLab x = new CompletionLab();
        due("text '" + text + "'", text(x, text), lines);
        due("fault(0) of '" + text + "'", x.fault(0), 0);
        due("fault(1) of '" + text + "'", x.fault(1), NONE);
    }

    /** A '!' stands ahead of the place where the FAULT is, and isn't one of the TEXT. */
    private static void faultAt(int fault, String marked) {
        int place = marked.indexOf('!');
        String text = marked.substring(0, place) + marked.substring(place + 1);
        CompletionLab x = new CompletionLab();
        due("text '" + text + "'", text(x, text), NONE);
        due("fault(0) of '" + text + "'", x.fault(0), fault);
        due("fault(1) of '" + text + "'", x.fault(1), place);
    }

    private static void words() {
        says("W: a word, a .. z, of 1 .. 6 letters");
        fine("sign abcdef 0 1;axiom zyxwvu=abcdef;", 2);
        fine("sign z 0 1;axiom a=z;", 2);
        faultAt(1, "sign !abcdefg 0 1;");
        faultAt(1, "axiom !abcdefg=x;");
        faultAt(1, "axiom x=!abcdefgh;");
        faultAt(1, "!ratioratio 1;");
        faultAt(1, "sign !A 0 1;");
        faultAt(1, "sign !` 0 1;");
        faultAt(1, "sign !{ 0 1;");
        faultAt(1, "sign a!B 0 1;");
        faultAt(1, "sign a!_b 0 1;");
        faultAt(1, "sign !\u00e9 0 1;");
        says("W: none of the language's (sign, ratio, most, axiom, goal)");
        for (String w : new String[] {"sign", "ratio", "most", "axiom", "goal"}) {
            faultAt(1, "sign !" + w + " 0 1;");
            faultAt(1, "axiom !" + w + "=x;");
            faultAt(1, "goal x=!" + w + ";");
            faultAt(1, "sign f 1 1;goal f(!" + w + ")=x;");
            fine("sign " + w + "s 0 1;axiom " + w + "s=x;", 2);
            fine("sign " + w.substring(1) + " 0 1;goal " + w.substring(1) + "=" + w.substring(0, 3) + ";", 2);
        }
        faultAt(1, "!signs a 0 1;");
        faultAt(1, "!axio x=x;");
        faultAt(1, "!z;");
        says("N: digits");
        fine("sign a 000 0009;ratio 04;most 0000000030;", 3);
        faultAt(1, "sign a !/ 1;");
        faultAt(1, "sign a !: 1;");
        faultAt(1, "sign a !-1 1;");
        faultAt(1, "sign a !+1 1;");
        faultAt(1, "ratio 1!.0;");
        says("Blanks 10, 32");
        fine("\n \n sign\na\n0 \n1\n;\n\n", 1);
        fine("sign a0 1;", 1);
        fine("sign a 0 1;sign b2 2;ratio9;most8;axiom a=b(a,a);", 5);
        fine(" \n", 0);
        fine("", 0);
        for (char c : new char[] {0, 9, 11, 13, 31, 33, 127, 128, 138, 160, 255}) {
            faultAt(1, "sign a!" + c + "0 1;");
        }
        says("a word or a number ends where the TEXT does");
        CompletionLab x = new CompletionLab();
        feed(x, "most 300;");
        due("text(7)", x.text(7), NONE);
        due("'most 30' and no ';'", x.fault(0), 1);
        due("the length", x.fault(1), 7);
    }

    private static void firstFaults() {
        says("FAULT 1: a TOKEN that is none or can't stand there");
        faultAt(1, "!;");
        faultAt(1, "sign a 0 1;!;");
        faultAt(1, "sign a 0 1!,");
        faultAt(1, "sign a 0 1 !1;");
        faultAt(1, "sign a 0!;");
        faultAt(1, "sign a!;");
        faultAt(1, "sign!;");
        faultAt(1, "sign !0 a 1;");
        faultAt(1, "sign a !b c;");
        faultAt(1, "ratio!;");
        faultAt(1, "most !a;");
        faultAt(1, "!12;");
        faultAt(1, "axiom x !y;");
        faultAt(1, "axiom x=y!=z;");
        faultAt(1, "axiom !=x;");
        faultAt(1, "goal x=!;");
        faultAt(1, "axiom !0=x;");
        faultAt(1, "axiom !(x)=x;");
        faultAt(1, "axiom x=x !goal x=x;");
        faultAt(1, "axiom x=!#;");
        says("FAULT 1: the length, if more must come");
        String whole = "sign f 1 1;axiom f(x)=x;";
        for (int n = 1; n < whole.length(); n++) {
            if (n != 11) {
                CompletionLab x = new CompletionLab();
                feed(x, whole);
                due("text(" + n + ")", x.text(n), NONE);
                due("fault(0) of text(" + n + ")", x.fault(0), 1);
                int place = n < 4 ? 0 : n > 11 && n < 16 ? 11 : n;
                due("fault(1) of text(" + n + ")", x.fault(1), place);
            }
        }
        fine(whole, 2);
        faultAt(1, whole + "goal x=x  \n !");
        faultAt(1, "sign f 1 1;axiom f(x  !");
        says("FAULT 1: a LINE too late");
        faultAt(1, "axiom x=x;!sign a 0 1;");
        faultAt(1, "goal x=x;!sign a 0 1;");
        faultAt(1, "axiom x=x;!ratio 1;");
        faultAt(1, "goal x=x;!ratio 1;");
        faultAt(1, "axiom x=x;!most 9;");
        faultAt(1, "goal x=x;!most 9;");
        fine("goal x=x;axiom x=x;goal x=x;axiom x=x;", 4);
        fine("most 9;sign a 0 1;ratio 9;sign b 0 1;axiom a=b;", 5);
        says("FAULT 1: a bracket behind a VARIABLE, or a SIGN of ARITY 0; none behind another");
        faultAt(1, "axiom x!(y)=x;");
        faultAt(1, "axiom y=x!(y);");
        faultAt(1, "sign a 0 1;axiom a!(x)=x;");
        faultAt(1, "sign f 1 1;axiom f(x!(y))=x;");
        faultAt(1, "sign f 1 1;axiom f!=x;");
        faultAt(1, "sign f 1 1;axiom x=f!;");
        faultAt(1, "sign f 1 1;axiom f(f!)=x;");
        faultAt(1, "sign f 1 1;axiom f !f(x)=x;");
        faultAt(1, "sign f 1 1;axiom f!)x)=x;");
        says("FAULT 1: a ')' where more TERMS must come, a ',' where none may");
        faultAt(1, SOME + "axiom f(!)=x;");
        faultAt(1, SOME + "axiom g(x!)=x;");
        faultAt(1, SOME + "axiom g(x,!)=x;");
        faultAt(1, SOME + "axiom g(!)=x;");
        faultAt(1, SOME + "axiom q(x,y!)=x;");
        faultAt(1, SOME + "axiom q(x,g(x!),y)=x;");
        faultAt(1, SOME + "axiom f(x!,y)=x;");
        faultAt(1, SOME + "axiom g(x,y!,z)=x;");
        faultAt(1, SOME + "axiom q(x,y,z!,u)=x;");
        faultAt(1, SOME + "axiom x!,y=x;");
        faultAt(1, SOME + "axiom f(x)!)=x;");
        faultAt(1, SOME + "axiom f(x!;");
        faultAt(1, SOME + "axiom g(x!;y)=x;");
        faultAt(1, SOME + "axiom g(!,x)=x;");
    }

    private static void muchFaults() {
        says("FAULT 2: a number beyond what is said: ARITY 0 .. 3, WEIGHT 1 .. 9");
        for (int arity = 0; arity < 4; arity++) {
            fine("sign a " + arity + " 1;", 1);
        }
        for (int weight = 1; weight < 10; weight++) {
            fine("sign a 0 " + weight + ";", 1);
        }
        faultAt(2, "sign a !4 1;");
        faultAt(2, "sign a 0 !0;");
        faultAt(2, "sign a 0 !10;");
        faultAt(2, "sign a !10 10;");
        says("FAULT 2: a number beyond what is said: RATIO 1 .. 9, MOST 8 .. 30");
        for (int n = 0; n < 33; n++) {
            if (n >= 1 && n <= 9) {
                fine("ratio " + n + ";", 1);
            } else {
                faultAt(2, "ratio !" + n + ";");
            }
            if (n >= 8 && n <= 30) {
                fine("most " + n + ";", 1);
            } else {
                faultAt(2, "most !" + n + ";");
            }
        }
        says("a number may have any digits: none wraps around");
        for (String much : new String[] {"256", "65536", "4294967296", "4294967297", "8589934600", "2147483648",
            "18446744073709551617", "18446744073709551624", "340282366920938463463374607431768211457", "100000", "99999"}) {
            faultAt(2, "sign a !" + much + " 1;");
            faultAt(2, "sign a 0 !" + much + ";");
            faultAt(2, "ratio !" + much + ";");
            faultAt(2, "most !" + much + ";");
        }
        says("FAULT 2: a ninth sign and so on (at the word of the LINE)");
        fine(EIGHT, 8);
        faultAt(2, EIGHT + "!sign i 0 1;");
        faultAt(2, EIGHT + "!sign");
        faultAt(2, EIGHT + "  !sign a 9 9;");
        String axioms = "axiom x=x;axiom x=x;axiom x=x;axiom x=x;axiom x=x;axiom x=x;axiom x=x;axiom x=x;";
        fine(axioms, 8);
        faultAt(2, axioms + "!axiom x=x;");
        faultAt(2, axioms + "!axiom #");
        String goals = "goal x=x;goal x=x;goal x=x;goal x=x;";
        fine(goals, 4);
        faultAt(2, goals + "!goal x=x;");
        faultAt(2, goals + "!goal;");
        fine(goals + axioms, 12);
        says("FAULT 2: a seventh VARIABLE; 6 at most of one LINE");
        fine(SOME + "axiom q(u,v,w)=q(x,y,z);axiom q(a,b,c)=q(d,e,h);goal q(i,j,k)=q(l,m,n);", 7);
        faultAt(2, SOME + "axiom q(u,v,w)=q(x,y,g(z,!t));");
        faultAt(2, SOME + "axiom q(q(u,v,w),x,q(y,z,!t))=x;");
        fine(SOME + "axiom q(q(u,v,w),x,q(y,z,a))=q(a,a,u);", 5);
        faultAt(2, SOME + "goal g(g(u,v),w)=q(x,y,g(z,u));axiom q(u,v,w)=q(x,y,g(z,!t));");
        says("FAULT 2: a 13th CODE (at its W); a T has at most 12 CODES");
        String twelve = round("f", 11, "x");
        fine(SOME + "axiom " + twelve + "=" + twelve + ";", 5);
        fine(SOME + "axiom " + round("f", 11, "a") + "=x;", 5);
        faultAt(2, SOME + "axiom " + round("f", 12, "!x") + "=x;");
        faultAt(2, SOME + "axiom x=" + round("f", 12, "!a") + ";");
        faultAt(2, SOME + "axiom " + round("f", 12, "!f(x)") + "=x;");
        faultAt(2, SOME + "axiom " + twelve + "=" + round("f", 12, "!x") + ";");
        faultAt(2, SOME + "goal q(q(x,x,x),q(x,x,x),q(x,x,!x))=x;");
        fine(SOME + "goal g(q(x,x,x),q(x,x,q(x,x,x)))=x;", 5);
    }

    private static void toldFaults() {
        says("FAULT 3: told already: ratio, most (at the word), a SIGN (at its W)");
        faultAt(3, "ratio 4;!ratio 4;");
        faultAt(3, "most 20;!most 20;");
        faultAt(3, "ratio 4;most 20;\n!ratio");
        faultAt(3, "ratio 4;most 20;!most");
        faultAt(3, "ratio 4;!ratio 99;");
        faultAt(3, "sign a 0 1;sign !a 0 1;");
        faultAt(3, "sign a 0 1;sign b 0 1;sign !a 9 99;");
        faultAt(3, "sign a 0 1;sign !a");
        says("FAULTS: the first along the text");
        faultAt(2, "sign a !4 1;sign a 0 1;#");
        faultAt(3, "sign a 0 1;sign !a 4 1;#");
        faultAt(1, "!# sign a 4 1;");
        faultAt(2, "sign a !4 0;");
        faultAt(2, "sign a 0 !0 #");
        says("FAULTS: of one place the least");
        faultAt(1, EIGHT + "goal x=x;!sign i 0 1;");
        faultAt(1, "ratio 4;goal x=x;!ratio 4;");
        faultAt(1, "most 9;axiom x=x;!most 9;");
        faultAt(1, SOME + "axiom " + round("f", 12, "!goal") + "=x;");
        faultAt(1, SOME + "axiom " + round("f", 12, "!abcdefg") + "=x;");
        faultAt(1, SOME + "axiom " + round("f", 12, "!1") + "=x;");
        faultAt(1, SOME + "axiom " + round("f", 12, "!)") + "=x;");
        faultAt(1, SOME + "axiom q(u,v,w)=q(x,y,g(z,!axiom));");
        faultAt(2, SOME + "axiom q(q(u,v,w),q(x,y,z),q(a,a,!t))=x;");
        faultAt(2, EIGHT + "!sign sign 0 1;");
        says("fault: of the latest text(), normal(), compare(), meet() that was not -2");
        CompletionLab x = new CompletionLab();
        due("a new object", x.fault(0), 0);
        due("a new object", x.fault(1), NONE);
        due("text(1)", x.text(1), -2);
        due("fault(0)", x.fault(0), 0);
        due("a FAULT of 2", text(x, " sign a 4 1;"), NONE);
        for (int refused = 0; refused < 4; refused++) {
            for (int n : new int[] {-1, 1, MAX, MIN}) {
                int got = refused == 0 ? x.text(n) : refused == 1 ? x.normal(n) : refused == 2 ? x.compare(n) : x.meet(n);
                due("a refused call", got, -2);
                due("fault(0)", x.fault(0), 2);
                due("fault(1)", x.fault(1), 8);
            }
        }
        due("x", normal(x, "x"), 1);
        due("without", x.fault(0), 0);
        due("without", x.fault(1), NONE);
        due("x=", compare(x, " x="), NONE);
        due("the length", x.fault(1), 20);
        due("x=y", compare(x, "x=y"), 3);
        due("without", x.fault(1), NONE);
        due("(x=y", meet(x, "(x=y"), NONE);
        due("fault(0)", x.fault(0), 1);
        due("fault(1)", x.fault(1), 0);
        due("meet that answers -3 had no FAULT", text(x, "sign a 0 1;sign b 0 1;") + meet(x, "a=b"), -1);
        due("fault(0)", x.fault(0), 0);
        says("fault: NONE for another what");
        for (int what : new int[] {-1, 2, 3, MAX, MIN}) {
            due("fault(" + what + ")", x.fault(what), NONE);
        }
    }

    // ---- the order

    private static void compareIs(CompletionLab x, String s, String t, int want) {
        due("compare " + s + "=" + t, compare(x, s + "=" + t), want);
        due("compare " + t + "=" + s, compare(x, t + "=" + s), want == 1 ? 2 : want == 2 ? 1 : want);
    }

    private static void orders() {
        CompletionLab x = lab("sign a 0 1;sign b 0 1;sign f 1 1;sign g 2 1;sign h 1 2;sign k 0 9;sign t 1 9;");
        says("GREATER: no VARIABLE is more often in t than in s");
        compareIs(x, "f(x)", "x", 1);
        compareIs(x, "f(x)", "y", 3);
        compareIs(x, "g(x,x)", "f(x)", 1);
        compareIs(x, "h(h(x))", "g(x,x)", 3);
        compareIs(x, "k", "x", 3);
        compareIs(x, "g(x,y)", "f(y)", 1);
        compareIs(x, "t(g(x,y))", "g(x,g(y,y))", 3);
        says("GREATER: WEIGHT of s is more; of a VARIABLE 1");
        compareIs(x, "k", "f(f(f(f(f(f(f(a)))))))", 1);
        compareIs(x, "f(f(f(f(f(f(f(f(b))))))))", "k", 2);
        compareIs(x, "f(f(f(f(f(f(f(f(f(a)))))))))", "k", 1);
        compareIs(x, round("t", 11, "a"), round("t", 10, "k"), 1);
        compareIs(x, round("t", 11, "x"), round("t", 11, "a"), 3);
        compareIs(x, "h(x)", "g(x,a)", 1);
        says("GREATER: the same WEIGHT, and neither is a VARIABLE");
        compareIs(x, "x", "a", 3);
        compareIs(x, "x", "y", 3);
        compareIs(x, "x", "x", 0);
        compareIs(x, "g(x,a)", "g(x,y)", 3);
        says("GREATER: the first SIGN of s has the greater number");
        compareIs(x, "a", "b", 2);
        compareIs(x, "f(b)", "f(a)", 1);
        compareIs(x, "g(f(x),a)", "f(g(x,x))", 3);
        compareIs(x, "f(g(x,a))", "g(f(x),a)", 2);
        says("GREATER: of the first two TERMS below it that are unlike that of s is GREATER");
        compareIs(x, "g(a,b)", "g(b,a)", 2);
        compareIs(x, "g(f(a),b)", "g(b,f(a))", 1);
        compareIs(x, "g(x,f(b))", "g(x,f(a))", 1);
        compareIs(x, "g(f(x),y)", "g(f(y),x)", 3);
        compareIs(x, "g(g(x,y),z)", "g(x,g(y,z))", 1);
        compareIs(x, "g(x,a)", "g(y,b)", 3);
        compareIs(x, "g(x,g(a,b))", "g(x,g(a,a))", 1);
        compareIs(x, "g(g(a,b),a)", "g(g(a,a),b)", 1);
        says("compare: 0 alike");
        compareIs(x, round("f", 11, "x"), round("f", 11, "x"), 0);
        compareIs(x, "g(x,y)", "g(y,x)", 3);
    }

    private static void rankedOtherwise() {
        says("turnedRank: SIGNS ranked from the one of the greatest number down, WEIGHTS as they are");
        CompletionLab x = lab("sign f 1 1;sign g 2 1;axiom g(x,y)=f(g(x,y));axiom g(f(x),y)=f(g(y,x));axiom f(g(x,y))=g(f(y),x);");
        due("turnedRank()", x.turnedRank(), 0);
        x = lab("sign f 1 1;sign g 2 1;sign a 0 1;sign b 0 1;axiom g(x,y)=g(y,x);axiom f(a)=f(b);axiom x=a;axiom g(x,a)=f(f(x));"
                + "axiom g(a,x)=g(x,b);");
        due("turnedRank()", x.turnedRank(), 3);
        due("of the ranks as they are", x.step(1), 1);
        due("b GREATER than a still", compare(x, "b=a"), 1);
        due("bestWeight()", x.bestWeight(), 2);
        says("turnedRank of no axioms");
        due("turnedRank()", new CompletionLab().turnedRank(), 0);
        due("turnedRank()", lab("sign a 0 1;").turnedRank(), 0);
        says("bestWeight: NONE: there are none");
        due("bestWeight()", new CompletionLab().bestWeight(), NONE);
        due("bestWeight() of axioms without SIGNS", lab("axiom x=y;").bestWeight(), NONE);
        says("bestWeight: the first");
        due("of no axioms", lab("sign a 0 1;sign b 0 1;").bestWeight(), 0);
        due("of what nothing turns", lab("sign a 0 1;sign b 0 1;axiom x=y;").bestWeight(), 0);
        says("bestWeight: 1 more, of a WEIGHT of 9, too");
        x = lab("sign f 1 9;sign g 2 1;sign a 0 1;sign u 1 1;axiom g(f(a),x)=g(x," + round("u", 9, "a") + ");");
        due("bestWeight()", x.bestWeight(), 0);
        due("it stays", x.sign(0, 1), 9);
        x = lab("sign g 2 1;sign a 0 1;sign u 1 1;sign f 1 9;axiom g(f(a),x)=g(x," + round("u", 9, "a") + ");");
        due("bestWeight()", x.bestWeight(), 2);
        x = lab("sign g 2 1;sign a 0 1;sign f 1 9;sign u 1 1;axiom g(f(a),x)=g(x," + round("u", 9, "a") + ");");
        due("bestWeight()", x.bestWeight(), 2);
    }

    // ---- FULL

    private static void fullOfEquations() {
        says("EQUATIONS have numbers 0, 1, .., 200 at most; where one more must be made the LAB is FULL: by a pair");
        CompletionLab x = lab("sign a 2 1;axiom a(y,a(a(z,y),y))=a(x,y);", 12);
        counts(x, 20, 0);
        int picked = x.next();
        int active = x.count(7) + x.count(8);
        due("ifStep(1, 4)", x.ifStep(1, 4), 1);
        due("ifStep(20, 2)", x.ifStep(20, 2), 201);
        due("step(20): the one that makes it FULL is one", x.step(20), 1);
        counts(x, 20, 1);
        counts(x, 5, 201);
        counts(x, 10, 13);
        due("number 200 is there", equation(x, 200, 0), 0);
        due("number 201 isn't", equation(x, 201, 0), IOOBE);
        due("code(201, 0, 0)", x.code(201, 0, 0), NONE);
        due("the picked one", equation(x, picked, 0) * 10 + equation(x, picked, 3), 30);
        due("the new one stays ACTIVE", x.count(7) + x.count(8), active + 1);
        fullLeaves(x);

        says("FULL, where one more must be made: of the one that was picked, which is GONE, as if TAKEN UP");
        x = lab("sign a 1 1;sign b 1 1;sign c 2 1;axiom c(c(z,c(x,y)),a(w))=a(y);", 23);
        counts(x, 5, 201);
        says("201 EQUATIONS are not FULL yet");
        counts(x, 20, 0);
        picked = x.next();
        active = x.count(7) + x.count(8);
        int gone = x.count(9);
        due("step(2)", x.step(2), 1);
        counts(x, 20, 1);
        counts(x, 5, 201);
        equationIs(x, picked, 3);
        due("as if TAKEN UP", equation(x, picked, 3), 0);
        due("none more is ACTIVE", x.count(7) + x.count(8), active);
        counts(x, 9, gone + 1);
        fullLeaves(x);

        says("FULL, asked ahead: what would be GONE for it stays as it was: COLLAPSED");
        x = lab("sign a 3 1;sign b 3 7;most 27;axiom a(y,a(a(u,z,x),z,x),y)=z;", 36);
        counts(x, 20, 0);
        picked = x.next();
        active = x.count(7) + x.count(8);
        gone = x.count(9);
        int collapsed = x.count(13);
        int pairs = pairs(x);
        due("step(1)", x.step(1), 1);
        counts(x, 20, 1);
        due("what goes on ends at that: pairs", pairs(x), pairs);
        counts(x, 5, 201);
        due("the last one is the one TAKEN UP", equation(x, 200, 2), 2);
        due("it is ACTIVE", equation(x, 200, 0), 1);
        counts(x, 13, collapsed);
        counts(x, 9, gone + 1);
        due("the ACTIVE ones stay", x.count(7) + x.count(8), active + 1);
        due("the picked one is TAKEN UP", equation(x, picked, 3), 0);
        fullLeaves(x);
    }

    private static void fullOfComposed() {
        says("FULL, asked ahead: what would be GONE for it stays as it was: COMPOSED, of EQUATIONS");
        CompletionLab x = lab(COMPOSED_LAST, 28);
        counts(x, 20, 0);
        int composed = x.count(14);
        int collapsed = x.count(13);
        List<Integer> rules = actives(x);
        int picked = x.next();
        int pairs = pairs(x);
        due("step(3)", x.step(3), 1);
        due("what goes on ends at that: pairs", pairs(x), pairs);
        counts(x, 20, 1);
        counts(x, 5, 201);
        due("the last is the one TAKEN UP", equation(x, 200, 2), 2);
        counts(x, 14, composed);
        counts(x, 13, collapsed);
        rules.add(200);
        holds("all that were ACTIVE are", actives(x).equals(rules));
        due("the picked one", equation(x, picked, 0) * 10 + equation(x, picked, 3), 30);
        fullLeaves(x);

        says("FULL, asked ahead: what would be GONE for it stays as it was: COMPOSED, of 24 ACTIVE");
        x = lab("sign a 0 1;sign b 2 1;sign c 2 1;sign d 1 6;ratio 5;most 19;axiom b(z,d(c(w,y)))=d(a);"
                + "axiom b(c(b(w,y),d(y)),b(a,d(z)))=d(b(z,w));axiom b(a,c(c(u,x),c(y,v)))=a;axiom c(c(x,b(w,x)),c(a,a))=a;", 26);
        counts(x, 20, 0);
        int active = x.count(7) + x.count(8);
        due("ACTIVE", active, 23);
        composed = x.count(14);
        rules = actives(x);
        pairs = pairs(x);
        due("step(1)", x.step(1), 1);
        due("what goes on ends at that: pairs", pairs(x), pairs);
        counts(x, 20, 1);
        holds("EQUATIONS are fewer", x.count(5) < 201);
        due("ACTIVE", x.count(7) + x.count(8), 24);
        counts(x, 14, composed);
        due("the last is the one TAKEN UP", equation(x, x.count(5) - 1, 2), 2);
        rules.add(x.count(5) - 1);
        holds("all that were ACTIVE are", actives(x).equals(rules));
        fullLeaves(x);
    }

    private static List<Integer> actives(CompletionLab x) {
        List<Integer> all = new ArrayList<>();
        for (int state = 1; state <= 2; state++) {
            for (int i = 0; x.inState(state, i) >= 0; i++) {
                all.add(x.inState(state, i));
            }
        }
        all.sort(null);
        return all;
    }

    private static int pairs(CompletionLab x) {
        return x.count(15) + x.count(16) + x.count(17) + x.count(18) + x.count(19);
    }

    /** What holds of each that is FULL. */
    private static void fullLeaves(CompletionLab x) {
        int steps = x.count(10);
        due("step(1): -2: it is FULL already", x.step(1), -2);
        due("step(20)", x.step(20), -2);
        due("step(0): NONE goes first", x.step(0), NONE);
        due("step(21): NONE goes first", x.step(21), NONE);
        counts(x, 10, steps);
        counts(x, 21, 0);
        due("ifStep(20, 2)", x.ifStep(20, 2), x.count(5));
        due("ifStep(1, 3)", x.ifStep(1, 3), 0);
        due("ifStep(1, 4)", x.ifStep(1, 4), 1);
        due("EQUATIONS", x.count(6) + x.count(7) + x.count(8) + x.count(9), x.count(5));
    }

    private static void fullOfActives() {
        says("RULES, FLAT ones are ACTIVE, 24 at most; where one more must be: FULL");
        CompletionLab x = lab("sign a 2 1;sign b 1 1;axiom a(b(w),x)=b(z);", 24);
        due("ACTIVE", x.count(7) + x.count(8), 24);
        counts(x, 20, 0);
        counts(x, 21, 0);
        due("ifStep(1, 0)", x.ifStep(1, 0), 24);
        due("ifStep(1, 4)", x.ifStep(1, 4), 1);
        int picked = x.next();
        int made = x.count(5);
        int waiting = x.count(6);
        due("step(20)", x.step(20), 1);
        counts(x, 20, 1);
        counts(x, 5, made);
        counts(x, 6, waiting - 1);
        due("ACTIVE", x.count(7) + x.count(8), 24);
        due("the picked one", equation(x, picked, 0) * 10 + equation(x, picked, 3), 30);
        fullLeaves(x);
        says("a JOINED or SUBSUMED one asks for no room");
        x = lab("sign z 0 1;sign s 1 1;sign p 2 1;sign t 2 2;axiom p(z,x)=x;axiom p(s(x),y)=s(p(x,y));axiom t(z,x)=z;"
                + "axiom t(s(x),y)=p(y,t(x,y));axiom p(x,y)=p(y,x);", 29);
        due("ACTIVE", x.count(7) + x.count(8), 24);
        counts(x, 20, 0);
        says("with 24 ACTIVE a COLLAPSED one finds room: it WAITS");
        x = lab("sign m 2 1;sign a 0 1;ratio 5;most 29;axiom m(x,x)=x;axiom m(m(x,y),z)=m(x,m(y,z));", 47);
        int collapsed = x.count(13);
        due("ACTIVE", x.count(7) + x.count(8), 23);
        due("step(1)", x.step(1), 1);
        holds("it COLLAPSED", x.count(13) > collapsed);
        counts(x, 20, 0);
        says("the LAB is FULL until the next TEXT");
        x = lab("sign a 2 1;sign b 1 1;axiom a(b(w),x)=b(z);", 25);
        counts(x, 20, 1);
        due("a FAULT leaves it FULL", text(x, "sign"), NONE);
        counts(x, 20, 1);
        due("text", text(x, "sign a 0 1;axiom a=a;"), 2);
        counts(x, 20, 0);
        due("step(1)", x.step(1), 1);
    }

    // ---- reducing

    private static void toldIs(CompletionLab x, int line, int by, int place, int way, int... codes) {
        due("told(" + line + ", -1)", x.told(line, -1), by);
        due("told(" + line + ", -3)", x.told(line, -3), place);
        due("told(" + line + ", -4)", x.told(line, -4), way);
        for (int i = 0; i <= codes.length; i++) {
            due("told(" + line + ", " + i + ")", x.told(line, i), i < codes.length ? codes[i] : -2);
        }
    }

    private static void reductions() {
        says("REDUCES: no VARIABLE of the to side lacks one");
        CompletionLab x = lab("sign a 0 1;sign f 1 9;sign g 2 1;axiom f(x)=g(x,y);", 1);
        counts(x, 8, 1);
        due("f(a): y lacks", normal(x, "f(a)"), 2);
        due("told(1, 0)", x.told(1, 0), -2);
        due("from RIGHT to LEFT f(x) would be more", normal(x, "g(a,a)"), 3);
        due("g(a,g(a,g(a,g(a,a)))): not GREATER than f(a) by WEIGHT", normal(x, "g(a,g(a,g(a,g(a,a))))"), 9);
        due("told(1, 0)", x.told(1, 0), -2);
        due("f(f(a)) would be more", normal(x, "g(f(a),a)"), 4);
        due("told(1, 0)", x.told(1, 0), -2);
        due("g(a,f(f(a))) is GREATER than f(a)", normal(x, "g(a,f(f(a)))"), 2);
        toldIs(x, 1, 1, 0, 1, 1, 0);
        says("REDUCES: of a FLAT one only if what it was is GREATER than what it becomes");
        x = lab("sign a 0 1;sign b 0 1;sign p 2 1;axiom p(x,y)=p(y,x);", 3);
        due("p(b,a)", normal(x, "p(b,a)"), 3);
        toldIs(x, 1, 1, 0, 0, 2, 0, 1);
        due("told(2, 0)", x.told(2, 0), -2);
        due("p(a,b)", normal(x, "p(a,b)"), 3);
        due("told(1, 0)", x.told(1, 0), -2);
        due("p(a,a) becomes what it was", normal(x, "p(a,a)"), 3);
        due("told(1, 0)", x.told(1, 0), -2);
        due("p(x,y): neither", normal(x, "p(x,y)"), 3);
        due("told(1, 0)", x.told(1, 0), -2);
        says("WAYS: a FLAT one: 0 and 1, from RIGHT to LEFT");
        x = lab("sign a 0 1;sign b 0 1;sign f 1 1;sign g 2 1;axiom g(a,f(x))=g(x,f(b));", 1);
        due("FLAT", x.count(8), 1);
        due("g(f(f(a)),f(b))", normal(x, "g(f(f(a)),f(b))"), 6);
        toldIs(x, 1, 1, 0, 1, 3, 0, 2, 2, 2, 0);
        due("told(2, 0)", x.told(2, 0), -2);
        says("NORMAL FORM: at the first PLACE that can be, the first ACTIVE by numbers, the first WAY");
        x = lab("sign a 0 1;sign b 0 1;sign f 1 1;sign g 2 1;ratio 1;axiom f(x)=x;axiom f(b)=a;axiom g(x,y)=g(y,x);");
        due("step(1)", x.step(1), 1);
        due("f(f(b))", normal(x, "g(f(b),f(f(b)))"), 3);
        toldIs(x, 1, 3, 1, 0, 3, 1, 2, 2, 1);
        toldIs(x, 2, 3, 2, 0, 3, 1, 2, 1);
        toldIs(x, 3, 3, 2, 0, 3, 1, 1);
        x = lab("sign c 0 9;sign d 0 9;sign f 1 1;axiom d=f(f(c));axiom c=f(d);", 1);
        says("NORMAL FORM: as long as there is one");
        due("x", normal(x, "x"), 1);
        due("told(1, 0)", x.told(1, 0), -2);
    }

    private static void limits() {
        says("REDUCES: never if the whole would have more than 60 CODES");
        String rule = "sign a 0 1;sign f 1 1;sign g 2 1;sign q 3 1;sign c 0 9;axiom c=f(g(a,g(a,g(a,a))));";
        CompletionLab x = lab(rule, 1);
        due("60", normal(x, "f(q(c,c,q(c,c,q(c,c,c))))"), 60);
        due("told(7, 0)", x.told(7, 0), 1);
        due("told(7, 59)", x.told(7, 59), 0);
        due("told(7, 60)", x.told(7, 60), -2);
        due("61 would be", normal(x, "f(f(q(c,c,q(c,c,q(c,c,c)))))"), 54);
        due("the seventh c stays", x.told(6, 53), 4);
        due("told(7, 0)", x.told(7, 0), -2);
        says("never if the whole would: another PLACE may still be REDUCED");
        x = lab("sign a 0 1;sign f 1 1;sign g 2 1;sign q 3 1;sign c 0 9;sign d 0 9;axiom c=f(g(a,g(a,g(a,a))));axiom d=f(a);", 2);
        due("seven of eight, and d", normal(x, "g(q(c,c,q(c,c,q(c,c,c))),d)"), 55);
        due("told(6, 53)", x.told(6, 53), 5);
        due("told(7, 53)", x.told(7, 53), 1);
        due("by d, behind the seventh c", x.told(7, -3), 53);
        says("NORMAL FORM: 30 times at most");
        x = lab("sign e 0 1;sign f 1 1;sign g 1 1;axiom g(f(x))=f(g(x));axiom g(e)=e;goal " + round("g", 6, round("f", 5, "e"))
                + "=" + round("f", 5, round("g", 6, "e")) + ";goal " + round("g", 5, round("f", 5, "e")) + "=" + round("f", 5, "e")
                + ";", 2);
        due("normal: six steps more would be", normal(x, round("g", 6, round("f", 5, "e"))), 12);
        due("told(30, 0)", x.told(30, 0), 1);
        due("told(31, 0)", x.told(31, 0), -2);
        due("normal: thirty", normal(x, round("g", 5, round("f", 5, "e"))), 6);
        due("told(30, 0)", x.told(30, 0), 1);
        due("told(31, 0)", x.told(31, 0), -2);
        says("GOAL: how many steps its sides' NORMAL FORMS are away: 30 at most, and so it doesn't MEET");
        due("goal(0, 1)", x.goal(0, 1), 30);
        due("goal(0, 2)", x.goal(0, 2), 6);
        due("goal(0, 3)", x.goal(0, 3), 12);
        due("goal(0, 4)", x.goal(0, 4), 6);
        due("goal(0, 0)", x.goal(0, 0), 0);
        due("goal(1, 0)", x.goal(1, 0), 1);
        due("goal(1, 1)", x.goal(1, 1), 30);
        due("goalSources(0)", x.goalSources(0), -2);
        due("goalSources(1)", x.goalSources(1), 3);
        counts(x, 22, 1);
    }

    // ---- STEPS

    private static void picks() {
        says("picked: by each RATIO-th STEP (STEPS are counted from 1 on) the one of the least number");
        for (int ratio = 1; ratio <= 8; ratio++) {
            CompletionLab x = lab("sign f 1 1;ratio " + ratio + ";axiom f(f(x))=f(f(x));axiom x=x;axiom x=x;axiom x=x;axiom x=x;"
                    + "axiom x=x;axiom x=x;axiom x=x;");
            for (int step = 1; step <= 8; step++) {
                int want = step == ratio ? 0 : step < ratio ? step : step - 1;
                due("ratio " + ratio + ", next() ahead of STEP " + step, x.next(), want);
                due("step(1)", x.step(1), 1);
                due("equation(" + want + ", 3)", equation(x, want, 3), 1);
            }
            says("next: -2: none WAITS");
            due("next()", x.next(), -2);
            due("step(20): fewer: FINISHED", x.step(20), 0);
            counts(x, 10, 8);
            counts(x, 11, 8);
            says("picked: by each RATIO-th STEP (STEPS are counted from 1 on) the one of the least number");
        }
        says("picked: else of the least SIZE of both sides together, of several the least number");
        CompletionLab x = lab("sign a 0 1;sign f 1 1;ratio 9;axiom f(f(f(a)))=a;axiom f(a)=f(f(a));axiom f(a)=f(a);axiom f(x)=f(x);");
        due("next()", x.next(), 2);
        x.step(1);
        due("next()", x.next(), 3);
        x.step(1);
        due("next(): of 5 and 5", x.next(), 0);
        says("RATIO: 4 at first");
        x = lab("sign f 1 1;axiom f(f(x))=f(f(x));axiom x=x;axiom x=x;axiom x=x;axiom x=x;");
        x.step(3);
        due("next()", x.next(), 0);
        says("step: n 1 .. 20 STEPS; NONE: no such n");
        x = lab(SUM);
        List<Integer> before = seen(x);
        for (int n : new int[] {0, -1, 21, MAX, MIN}) {
            due("step(" + n + ")", x.step(n), NONE);
        }
        holds("nothing is done", seen(x).equals(before));
        says("step: how many were done (fewer: FINISHED)");
        due("step(20)", x.step(20), 2);
        due("step(1)", x.step(1), 0);
        counts(x, 10, 2);
        x = lab("sign e 0 1;sign m 2 1;sign i 1 1;axiom m(e,x)=x;axiom m(i(x),x)=e;axiom m(m(x,y),z)=m(x,m(y,z));");
        due("step(20)", x.step(20), 20);
        counts(x, 10, 20);
        says("FINISHED, if none WAITS (and it isn't FULL)");
        x = lab("sign a 0 1;axiom a=a;");
        counts(x, 21, 0);
        due("step(1)", x.step(1), 1);
        counts(x, 21, 1);
        x = lab("sign m 2 1;sign a 0 1;ratio 3;axiom x=m(m(y,x),a);goal x=a;");
        counts(x, 21, 0);
    }

    private static void takings() {
        says("alike: JOINED, the STEP ends");
        CompletionLab x = lab("sign a 0 1;sign f 1 1;ratio 1;axiom f(a)=a;axiom f(f(a))=f(a);axiom f(x)=f(x);", 3);
        equationIs(x, 1, 3, 5, 0, 1);
        equationIs(x, 2, 3, 4, 0, 1);
        counts(x, 11, 2);
        counts(x, 5, 4);
        says("an ACTIVE one of which it is an instance (TERMS put for its VARIABLES make its LEFT, RIGHT these two): SUBSUMED");
        x = lab("sign a 0 1;sign k 1 1;sign m 1 1;sign f 1 1;ratio 1;axiom k(x)=m(y);axiom k(f(x))=m(a);axiom m(x)=k(y);"
                + "axiom k(x)=m(x);axiom f(k(x))=f(m(y));", 5);
        equationIs(x, 1, 3, 5, 0, 2);
        says("SUBSUMED: or these two the other way");
        equationIs(x, 2, 3, 4, 0, 2);
        equationIs(x, 3, 3, 4, 0, 2);
        says("SUBSUMED is only an instance of the whole");
        equationIs(x, 4, 3, 6, 0, 0);
        counts(x, 12, 3);
        says("SUBSUMED: VARIABLES of it are none that something is put for");
        x = lab("sign a 0 1;sign k 1 1;sign m 1 1;ratio 1;axiom k(x)=m(a);axiom k(x)=m(y);", 2);
        due("equation(1, 3)", equation(x, 1, 3), 0);
        says("of which it is an instance: these two are the NORMAL FORMS");
        x = lab("sign a 0 1;sign k 1 1;sign m 1 1;sign f 1 1;ratio 1;axiom f(x)=x;axiom k(x)=m(y);axiom f(k(a))=m(f(a));", 3);
        due("equation(2, 3)", equation(x, 2, 3), 2);
        says("(b) neither is: FLAT, LEFT as it was");
        x = lab("sign k 1 1;sign m 1 1;ratio 1;axiom m(x)=k(y);", 1);
        equationIs(x, 1, 2, 4, 2, -2, 2, 1, 1, 1, 1, 2);
        sidesAre(x, 1, codes(1, 100), codes(0, 101));
        byIs(x, 1, 1, 0, 1, 0);
        says("(b) the GREATER one its LEFT: a RULE");
        x = lab("sign k 1 1;sign m 1 1;ratio 1;axiom k(x)=m(x);", 1);
        equationIs(x, 1, 1, 4, 2, -2, 2, 1, 1, 1, 1, 1);
        sidesAre(x, 1, codes(1, 100), codes(0, 100));
        byIs(x, 1, 1, 0, 0, 0);
        lineIs(x, 1, 0, 1, 100);
        lineIs(x, 1, 1, 0, 100);
    }

    private static void simplifications() {
        says("(c) COLLAPSED: with that side REDUCED once (by the new one alone, at the first PLACE, the first WAY), LEFT as LEFT");
        CompletionLab x = lab("sign a 0 1;sign b 0 1;sign q 2 1;ratio 1;axiom q(b,b)=b;axiom b=a;", 2);
        equationIs(x, 2, 3, 4, 2, 3);
        equationIs(x, 4, 0, 4, 3, -2, 3, 2, 2, 3, 2, 0);
        sidesAre(x, 4, codes(2, 0, 1), codes(1));
        lineIs(x, 4, 0, 2, 0, 1);
        lineIs(x, 4, 1, 2, 1, 1);
        lineIs(x, 4, 2, 1);
        byIs(x, 4, 1, 3, 0, 1);
        byIs(x, 4, 2, 2, 1, 0);
        counts(x, 13, 1);
        counts(x, 14, 0);
        says("(c) of a FLAT one else its RIGHT: COLLAPSED, LEFT as LEFT");
        x = lab("sign a 0 1;sign b 0 1;sign f 1 1;ratio 1;axiom f(x)=f(b);axiom b=a;", 2);
        equationIs(x, 2, 3, 4, 2, 3);
        sidesAre(x, 4, codes(2, 100), codes(2, 0));
        equationIs(x, 4, 0, 4, 3, -2, 3, 2, 2, 3, 2, 1);
        lineIs(x, 4, 1, 2, 1);
        byIs(x, 4, 1, 2, 1, 0);
        byIs(x, 4, 2, 3, 1, 1);
        counts(x, 13, 1);
        says("(c) else, can it REDUCE the RIGHT of a RULE: COMPOSED: RIGHT is its NORMAL FORM");
        x = lab("sign a 0 1;sign b 0 1;sign c 0 1;sign f 1 1;sign q 2 1;ratio 1;axiom f(a)=b;axiom q(f(x),x)=q(b,c);axiom c=a;", 3);
        due("f(a)=b stays", equation(x, 3, 0), 1);
        equationIs(x, 4, 3, 7, 2, 4);
        equationIs(x, 7, 1, 7, 4, -2, 3, 2, 2, 6, 3, 1);
        sidesAre(x, 7, codes(4, 3, 100, 100), codes(4, 1, 0));
        lineIs(x, 7, 0, 4, 3, 100, 100);
        lineIs(x, 7, 1, 4, 1, 2);
        lineIs(x, 7, 2, 4, 1, 0);
        byIs(x, 7, 1, 4, 1, 0);
        byIs(x, 7, 2, 6, 1, 2);
        counts(x, 14, 1);
        counts(x, 13, 0);
        says("(c) COMPOSED: by all that are ACTIVE but itself");
        x = lab("sign a 0 1;sign b 0 1;sign c 0 1;sign f 1 1;sign g 1 1;ratio 1;axiom f(x)=x;axiom g(a)=f(c);axiom c=b;", 3);
        sidesAre(x, 4, codes(4, 0), codes(2));
        equationIs(x, 4, 3, 3, 2, 4);
        sidesAre(x, 6, codes(4, 0), codes(1));
    }

    // ---- OVERLAPS and CRITICAL PAIRS

    private static void overlapIs(CompletionLab a, int x, int y, int i, int... answers) {
        for (int what = 0; what < answers.length; what++) {
            due("overlap(" + x + ", " + y + ", " + i + ", " + what + ")", a.overlap(x, y, i, what), answers[what]);
        }
    }

    private static void overlapPlaces() {
        says("OVERLAPS: not PLACE 0, if x is y and the WAYS are the same");
        CompletionLab x = lab("sign f 1 1;sign p 2 1;axiom f(f(x))=x;axiom f(f(x))=x;axiom p(x,y)=p(y,x);");
        due("overlaps(0, 0)", x.overlaps(0, 0), 1);
        overlapIs(x, 0, 0, 0, 0, 0, 1, 4, 2, 2);
        due("of another one that is alike", x.overlaps(0, 1), 2);
        overlapIs(x, 0, 1, 0, 0, 0, 0, 3, 1, 1);
        overlapIs(x, 0, 1, 1, 0, 0, 1, 4, 2, 2);
        due("x is y, the WAYS are not the same", x.overlaps(2, 2), 2);
        overlapIs(x, 2, 2, 0, 0, 1, 0, 3, 3, 3);
        overlapIs(x, 2, 2, 1, 1, 0, 0, 3, 3, 3);
        says("OVERLAPS: each PLACE of x's from side that is no VARIABLE");
        x = lab("sign a 0 1;sign f 1 1;sign g 2 1;axiom f(x)=g(x,a);axiom f(x)=x;axiom a=x;");
        due("g(x,a) by f(x)", x.overlaps(0, 1), 0);
        due("g(x,a) by a: both WAYS of a FLAT one", x.overlaps(0, 2), 3);
        overlapIs(x, 0, 2, 0, 1, 0, 2);
        overlapIs(x, 0, 2, 1, 1, 1, 0);
        overlapIs(x, 0, 2, 2, 1, 1, 2);
        due("of a by itself", x.overlaps(2, 2), 1);
        overlapIs(x, 2, 2, 0, 0, 1, 0, 1, 1, 1, 0);
        says("WAYS: 0 alone, if its LEFT is GREATER, 1 alone, if its RIGHT is, else both");
        x = lab("sign f 1 1;sign g 1 1;axiom f(f(x))=g(x);axiom g(x)=f(f(x));axiom f(f(x))=g(y);");
        overlapIs(x, 0, 0, 0, 0, 0, 1);
        overlapIs(x, 1, 1, 0, 1, 1, 1);
        due("overlaps(0, 0)", x.overlaps(0, 0), 1);
        due("overlaps(1, 1)", x.overlaps(1, 1), 1);
        due("overlaps(2, 2)", x.overlaps(2, 2), 1);
        says("OVERLAPS: neither x's nor y's to side may be GREATER so than its from side");
        x = lab("sign a 0 1;sign b 0 1;sign p 2 1;axiom p(x,y)=p(y,x);axiom p(a,b)=a;axiom p(b,a)=b;");
        due("y's: p(b,a) of p(a,b)", x.overlaps(1, 0), 0);
        due("x's", x.overlaps(0, 1), 0);
        due("y's: p(a,b) of p(b,a)", x.overlaps(2, 0), 2);
        due("x's", x.overlaps(0, 2), 2);
        says("the PLACE is one of x's from side");
        x = lab("sign a 0 1;sign f 1 1;sign g 2 1;axiom g(x,f(x))=a;axiom f(g(a,y))=a;");
        due("overlaps(0, 1)", x.overlaps(0, 1), 1);
        overlapIs(x, 0, 1, 0, 0, 0, 2, 8, 5, 1);
    }

    private static void bigOverlaps() {
        says("overlap: SIZES of PEAK, the sides (60 CODES at most, each: else 61)");
        CompletionLab x = lab("sign a 0 1;sign g 2 1;sign q 3 1;axiom q(y,y,q(y,g(z,z),z))=a;axiom q(w,w,q(w,w,q(u,a,g(a,a))))=g(w,a);"
                + "axiom q(g(y,y),g(y,g(z,z)),z)=a;axiom q(x,g(w,w),q(u,a,g(a,a)))=q(x,x,w);"
                + "axiom q(x,g(w,w),q(u,a,g(a,a)))=g(w,a);");
        overlapIs(x, 0, 1, 0, 0, 0, 0, 60, 15, 1, 0);
        overlapIs(x, 2, 3, 0, 0, 0, 0, 61, 61, 1, 0);
        overlapIs(x, 2, 4, 0, 0, 0, 0, 61, 15, 1, 0);
        says("overlaps: not asked, if PEAK or a side has more than 60 CODES: it is one");
        due("overlaps(2, 4)", x.overlaps(2, 4), 1);
        says("overlap: -2: there are not so many; NONE: no such ones");
        due("overlap(0, 1, 1, 0)", x.overlap(0, 1, 1, 0), -2);
        due("overlap(0, 1, MAX, 6)", x.overlap(0, 1, MAX, 6), -2);
        for (int bad : new int[] {-1, 5, 200, 201, MAX, MIN}) {
            due("overlap(" + bad + ", 1, 0, 0)", x.overlap(bad, 1, 0, 0), NONE);
            due("overlap(0, " + bad + ", 0, 0)", x.overlap(0, bad, 0, 0), NONE);
            due("overlaps(" + bad + ", 0)", x.overlaps(bad, 0), NONE);
            due("overlaps(0, " + bad + ")", x.overlaps(0, bad), NONE);
        }
        for (int bad : new int[] {-1, 7, MAX, MIN}) {
            due("overlap(0, 1, 0, " + bad + ")", x.overlap(0, 1, 0, bad), NONE);
            due("NONE goes first", x.overlap(0, 1, 9, bad), NONE);
        }
        due("overlap(0, 1, -1, 0)", x.overlap(0, 1, -1, 0), NONE);
        due("overlap(0, 1, MIN, 0)", x.overlap(0, 1, MIN, 0), NONE);
        due("overlaps: none", new CompletionLab().overlaps(0, 0), NONE);
        says("overlap: whether its sides MEET now (1, 0; 0 if one has 61)");
        x = lab("sign f 1 1;sign g 1 1;ratio 1;axiom f(f(x))=g(x);", 1);
        due("overlap(1, 1, 0, 6)", x.overlap(1, 1, 0, 6), 0);
        x.step(1);
        due("overlap(1, 1, 0, 6)", x.overlap(1, 1, 0, 6), 1);
        x = lab("sign a 0 1;sign g 2 1;sign q 3 1;ratio 1;axiom q(g(y,y),g(y,g(z,z)),z)=x;axiom q(x,g(w,w),q(u,a,g(a,a)))=q(x,x,w);"
                + "axiom q(x,y,z)=a;axiom x=a;", 4);
        due("all is alike now", normal(x, "q(x,y,g(x,x))"), 1);
        due("a side of 61", x.overlap(0, 1, 0, 4), 61);
        due("overlap(0, 1, 0, 6)", x.overlap(0, 1, 0, 6), 0);
    }

    private static void tooBigPairs() {
        says("TOO BIG: PEAK has more than MOST CODES");
        CompletionLab x = lab("sign m 2 1;most 8;axiom m(m(x,x),y)=y;", 1);
        counts(x, 15, 1);
        counts(x, 19, 0);
        due("open(1)", x.open(1), 0);
        x = lab("sign m 2 1;most 9;axiom m(m(x,x),y)=y;", 1);
        counts(x, 15, 0);
        counts(x, 17, 1);
        due("open(1)", x.open(1), 1);
        says("TOO BIG: a side has more than MOST CODES: PEAK with that PLACE REDUCED to y's to side");
        String first = "sign a 0 1;sign b 0 1;sign g 1 9;sign h 2 9;sign q 2 1;ratio 1;most #;axiom g(h(x,a))=a;"
                + "axiom h(b,y)=q(a,q(a,q(a,q(a,a))));";
        x = lab(first.replace("#", "9"), 2);
        counts(x, 15, 1);
        counts(x, 19, 0);
        due("overlap(2, 3, 0, 3)", x.overlap(2, 3, 0, 3), 4);
        due("overlap(2, 3, 0, 4)", x.overlap(2, 3, 0, 4), 10);
        due("open(1)", x.open(1), 0);
        x = lab(first.replace("#", "10"), 2);
        counts(x, 15, 0);
        counts(x, 19, 1);
        due("open(1)", x.open(1), 1);
        says("TOO BIG: a side has more than MOST CODES: x's to side");
        String second = "sign a 0 1;sign b 0 1;sign g 1 9;sign h 2 9;sign q 2 1;ratio 1;most #;"
                + "axiom g(h(x,a))=q(a,q(a,q(a,q(a,a))));axiom h(b,y)=a;";
        x = lab(second.replace("#", "8"), 2);
        counts(x, 15, 1);
        counts(x, 19, 0);
        due("overlap(2, 3, 0, 5)", x.overlap(2, 3, 0, 5), 9);
        x = lab(second.replace("#", "9"), 2);
        counts(x, 15, 0);
        counts(x, 19, 1);
        says("MOST: 20 at first");
        x = lab("sign f 1 1;sign a 0 1;axiom " + round("f", 11, "x") + "=" + round("f", 9, "a") + ";", 1);
        due("PEAKS of 13 .. 20 fit, of 21, 22 don't", x.count(15), 2);
        says("TOO BIG: more than 12 VARIABLES in all three");
        String six = "sign a 0 1;sign f 1 9;sign g 2 1;sign q 3 1;most 30;ratio 1;axiom f(a)=g(q(x,y,z),q(u,v,w));axiom q(f(a),f(a),#)=a;";
        x = lab(six.replace("#", "x"), 2);
        counts(x, 15, 0);
        due("seven VARIABLES", equation(x, 4, 9), 7);
        x.step(1);
        due("thirteen are too many", x.count(15), 1);
        x = lab(six.replace("#", "a"), 2);
        due("six VARIABLES", equation(x, 4, 9), 6);
        x.step(1);
        due("twelve are not", x.count(15), 0);
        says("TOO BIG: a thirteenth VARIABLE that is a side alone");
        x = lab(six.replace("#", "a") + "axiom q(g(x,y),g(z,w),u)=v;", 16);
        counts(x, 15, 0);
        due("RIGHT is a VARIABLE that LEFT hasn't", equation(x, x.next(), 9), 9);
        due("step(1)", x.step(1), 1);
        due("three of these have twelve but for that one", x.count(15), 35);
    }

    private static void sortedPairs() {
        says("CONNECTED: at a PLACE behind the OVERLAP's, within its TERM in PEAK");
        CompletionLab x = lab("sign a 0 1;sign b 0 1;sign k 1 1;sign v 1 1;sign p 2 1;ratio 1;axiom v(b)=a;axiom k(b)=a;"
                + "axiom p(k(u),v(u))=b;", 3);
        counts(x, 16, 0);
        counts(x, 19, 2);
        due("open(2)", x.open(2), 0);
        x = lab("sign a 0 1;sign b 0 1;sign h 1 1;sign g 2 1;ratio 1;axiom h(h(a))=b;axiom g(h(x),x)=a;axiom g(y,h(a))=b;", 3);
        counts(x, 16, 2);
        counts(x, 19, 1);
        due("open(2)", x.open(2), 2);
        says("CONNECTED: a RULE that is ACTIVE can be put: a FLAT one isn't that");
        x = lab("sign a 0 1;sign b 0 1;sign c 1 1;sign h 2 1;sign f 1 1;ratio 1;axiom c(x)=c(y);axiom f(h(u,a))=a;axiom h(c(b),v)=b;", 3);
        counts(x, 8, 1);
        counts(x, 16, 0);
        counts(x, 19, 2);
        says("CONNECTED goes ahead of MET");
        x = lab("sign a 0 1;sign h 1 1;sign g 2 1;ratio 1;axiom h(h(a))=a;axiom g(h(x),x)=a;axiom g(y,h(a))=a;", 3);
        counts(x, 16, 2);
        counts(x, 17, 0);
        due("open(0)", x.open(0), 0);
        says("TOO BIG goes ahead of CONNECTED, MET");
        x = lab("sign a 0 1;sign h 1 1;sign g 2 1;sign q 3 1;ratio 1;most 8;axiom h(h(a))=a;axiom q(h(x),x,g(a,a))=a;axiom q(y,h(a),z)=a;", 3);
        due("PEAK of 9", x.overlap(4, 5, 0, 3), 9);
        counts(x, 15, 3);
        counts(x, 16, 0);
        counts(x, 17, 0);
        says("MET: its sides' NORMAL FORMS are alike");
        x = lab("sign f 1 1;axiom f(f(f(x)))=x;", 1);
        counts(x, 17, 2);
        counts(x, 19, 0);
        says("TWICE: one that WAITS has the same sides, either way");
        x = lab("sign a 0 1;sign b 0 1;sign f 2 1;ratio 1;axiom f(x,b)=x;axiom f(a,y)=y;", 2);
        counts(x, 18, 1);
        counts(x, 19, 1);
        sidesAre(x, 4, codes(0), codes(1));
        says("TWICE: one that is ACTIVE has the same sides");
        x = lab("sign c 1 1;axiom c(x)=c(y);", 1);
        counts(x, 18, 2);
        counts(x, 19, 0);
        counts(x, 17, 0);
        says("TWICE: one that is GONE isn't that");
        x = lab("sign a 0 1;sign b 0 1;sign c 0 1;sign p 2 1;sign f 3 1;ratio 1;axiom p(x,y)=p(y,x);axiom p(a,x)=p(x,a);"
                + "axiom f(u,c,w)=p(a,w);axiom f(b,v,w)=p(w,a);", 4);
        due("p(a,x) = p(x,a) is GONE", equation(x, 1, 3), 2);
        counts(x, 18, 1);
        counts(x, 19, 1);
        equationIs(x, 7, 0, 6, 1);
        says("TWICE: the same sides, but for names of VARIABLES, and of the whole");
        x = lab("sign a 0 1;sign b 0 1;sign c 0 1;sign p 2 1;sign f 3 1;ratio 1;axiom p(x,y)=p(y,x);"
                + "axiom f(u,c,w)=p(a,w);axiom f(b,v,w)=p(w,a);axiom p(w,a)=p(a,w);", 3);
        counts(x, 18, 2);
        counts(x, 19, 0);
    }

    // ---- PROOFS

    private static final String COMPOSED_LAST = "sign l 0 1;sign k 0 1;sign p 1 1;sign u 1 1;sign a 2 1;axiom u(x)=x;axiom p(l)=k;"
            + "axiom a(a(a(z,x),a(y,y)),y)=a(a(y,z),x);axiom u(u(u(x)))=" + round("u", 10, "x") + ";axiom u(u(u(x)))="
            + round("u", 9, "x") + ";axiom " + round("u", 7, "k") + "=" + round("u", 9, "l") + ";";

    /** Each SIGN goes away by eleven and ten uses of the one ahead of it, so that LENGTHS grow by 21 each. */
    private static String long1() {
        StringBuilder b = new StringBuilder();
        for (char c = 'a'; c <= 'h'; c++) {
            b.append("sign ").append(c).append(" 1 1;");
        }
        b.append("ratio 9;axiom a(x)=x;");
        for (char c = 'a'; c < 'f'; c++) {
            b.append("axiom ").append(round("" + c, 11, "x")).append('=').append(round("" + c, 10, (char) (c + 1) + "(x)")).append(';');
        }
        b.append("axiom ").append(round("f", 9, "g(g(x))")).append('=').append(round("f", 10, "h(x)")).append(';');
        b.append("axiom h(g(h(g(h(g(h(g(h(g(h(x)))))))))))=").append(round("f", 11, "x")).append(';');
        return b.toString();
    }

    private static void lengths() {
        says("LENGTH: 1 of an axiom, else of all that its lines use together (each time), 1000000000 at most");
        CompletionLab x = lab(long1(), 20);
        counts(x, 21, 1);
        int[] lengths = {1, 1, 1, 1, 1, 1, 1, 1, 1, 22, 463, 9724, 204205, 4288306, 81477815, 162955630, 162955630, 1000000000,
            1000000000, 1000000000, 1000000000};
        counts(x, 5, lengths.length);
        for (int k = 0; k < lengths.length; k++) {
            due("equation(" + k + ", 6)", equation(x, k, 6), lengths[k]);
        }
        says("lines of its PROOF (LEFT, RIGHT, too)");
        int[] lines = {2, 2, 2, 2, 2, 2, 2, 2, 2, 23, 23, 23, 23, 23, 21, 3, 2, 34};
        for (int k = 0; k < lines.length; k++) {
            due("equation(" + k + ", 4)", equation(x, k, 4), lines[k]);
            due("line(" + k + ", last, 0)", x.line(k, lines[k] - 1, 0), x.code(k, 1, 0));
            due("line(" + k + ", behind, 0)", x.line(k, lines[k], 0), NONE);
            due("by(" + k + ", last, 0)", x.by(k, lines[k] - 1, 0) >= 0 ? 1 : 0, 1);
            due("by(" + k + ", behind, 0)", x.by(k, lines[k], 0), NONE);
        }
        says("DEPTH: 0 of an axiom, else 1 more than the greatest of those that its PROOF uses");
        int[] depths = {0, 0, 0, 0, 0, 0, 0, 0, 1, 2, 3, 4, 5, 6, 7, 8, 9, 10, 11, 11, 12};
        for (int k = 0; k < depths.length; k++) {
            due("equation(" + k + ", 5)", equation(x, k, 5), depths[k]);
        }
        says("SOURCES: axioms that it hangs on, through all that it uses, as bits");
        int[] sources = {1, 2, 4, 8, 16, 32, 64, 128, 1, 3, 7, 15, 31, 63, 127, 127, 127, 255};
        for (int k = 0; k < sources.length; k++) {
            due("equation(" + k + ", 7)", equation(x, k, 7), sources[k]);
        }
        says("needed: those in SOURCES of all of them");
        due("needed()", x.needed(), 1);
    }

    private static void longProofs() {
        says("a PROOF of as many lines as 30 steps of each side make");
        CompletionLab x = lab("sign e 0 1;sign f 1 1;sign g 1 1;sign h 1 9;ratio 1;axiom g(f(x))=f(g(x));axiom g(e)=e;axiom "
                + round("g", 5, round("f", 5, "e")) + "=h(" + round("g", 6, round("f", 4, "e")) + ");", 3);
        due("lines", equation(x, 5, 4), 2 + 30 + 30);
        due("the one that was picked, behind all lines of LEFT's side", x.by(5, 31, 0), 2);
        due("line(5, 61, 0)", x.line(5, 61, 0), x.code(5, 1, 0));
        due("line(5, 62, 0)", x.line(5, 62, 0), NONE);
        due("by(5, 61, 0)", x.by(5, 61, 0), 4);
        due("by(5, 62, 0)", x.by(5, 62, 0), NONE);
        says("VARIABLES of one are numbered as they first come in LEFT, in RIGHT, in lines of its PROOF");
        x = lab("sign a 0 1;sign f 2 1;axiom f(f(x,y),z)=a;", 1);
        sidesAre(x, 2, codes(1, 0, 100), codes(0));
        lineIs(x, 2, 0, 1, 0, 100);
        lineIs(x, 2, 1, 1, 1, 1, 101, 102, 103, 100);
        lineIs(x, 2, 2, 0);
        due("VARIABLES of its sides", equation(x, 2, 9), 1);
        x = lab("sign f 1 1;sign g 2 1;axiom f(z)=g(y,g(x,z));", 1);
        sidesAre(x, 0, codes(0, 100), codes(1, 101, 1, 102, 100));
        sidesAre(x, 1, codes(1, 100, 1, 101, 102), codes(0, 102));
        lineIs(x, 1, 0, 1, 100, 1, 101, 102);
        lineIs(x, 1, 1, 0, 102);
        due("equation(0, 9)", equation(x, 0, 9), 3);
    }

    // ---- what is asked of EQUATIONS

    private static void equations() {
        CompletionLab x = lab(SUM);
        int[] bad = {-1, 2, 3, 200, 201, MAX, MIN};
        for (int k : bad) {
            says("equation: IndexOutOfBoundsException: no such EQUATION, ahead of NoSuchElementException: no such what");
            due("equation(" + k + ", 0)", equation(x, k, 0), IOOBE);
            due("equation(" + k + ", 10)", equation(x, k, 10), IOOBE);
            due("equation(" + k + ", -1)", equation(x, k, -1), IOOBE);
            says("code, line, by, uses, users: NONE: no such ones");
            due("code(" + k + ", 0, 0)", x.code(k, 0, 0), NONE);
            due("code(" + k + ", 0, 99)", x.code(k, 0, 99), NONE);
            due("line(" + k + ", 0, 0)", x.line(k, 0, 0), NONE);
            due("line(" + k + ", 0, 99)", x.line(k, 0, 99), NONE);
            due("by(" + k + ", 1, 0)", x.by(k, 1, 0), NONE);
            due("uses(" + k + ", 0)", x.uses(k, 0), NONE);
            due("uses(0, " + k + ")", x.uses(0, k), NONE);
            due("uses(" + k + ", " + k + ")", x.uses(k, k), NONE);
            due("users(" + k + ", 0)", x.users(k, 0), NONE);
        }
        says("equation: NoSuchElementException: no such what");
        for (int what : new int[] {-1, 10, 11, MAX, MIN}) {
            due("equation(0, " + what + ")", equation(x, 0, what), NSEE);
        }
        says("equation: why it is GONE (-2: it isn't)");
        due("equation(0, 3)", equation(x, 0, 3), -2);
        x.step(1);
        due("equation(0, 3)", equation(x, 0, 3), 0);
        due("equation(1, 3)", equation(x, 1, 3), -2);
        due("equation(2, 3)", equation(x, 2, 3), -2);
        says("equation: the STEP in which it was made (0: axioms)");
        due("equation(1, 8)", equation(x, 1, 8), 0);
        due("equation(2, 8)", equation(x, 2, 8), 1);
        x.step(1);
        due("equation(3, 8)", equation(x, 3, 8), 2);
    }

    private static void codesAndLines() {
        CompletionLab x = lab(SUM, 2);
        says("code: -2: it has not so many; NONE: no such ones");
        due("code(0, 0, 2)", x.code(0, 0, 2), 100);
        due("code(0, 0, 3)", x.code(0, 0, 3), -2);
        due("code(0, 1, 0)", x.code(0, 1, 0), 100);
        due("code(0, 1, 1)", x.code(0, 1, 1), -2);
        due("code(0, 0, MAX)", x.code(0, 0, MAX), -2);
        due("code(0, 1, MAX)", x.code(0, 1, MAX), -2);
        for (int bad : new int[] {-1, 2, MAX, MIN}) {
            due("code(0, " + bad + ", 0)", x.code(0, bad, 0), NONE);
            due("NONE goes first", x.code(0, bad, 9), NONE);
        }
        due("code(0, 0, -1)", x.code(0, 0, -1), NONE);
        due("code(0, 1, MIN)", x.code(0, 1, MIN), NONE);
        says("line: -2: it has not so many; NONE: no such ones");
        due("line(0, 0, 2)", x.line(0, 0, 2), 100);
        due("line(0, 0, 3)", x.line(0, 0, 3), -2);
        due("line(0, 1, 0)", x.line(0, 1, 0), 100);
        due("line(0, 1, 1)", x.line(0, 1, 1), -2);
        due("line(0, 1, MAX)", x.line(0, 1, MAX), -2);
        for (int bad : new int[] {-1, 2, MAX, MIN}) {
            due("line(0, " + bad + ", 0)", x.line(0, bad, 0), NONE);
            due("NONE goes first", x.line(0, bad, 99), NONE);
        }
        due("line(0, 0, -1)", x.line(0, 0, -1), NONE);
        due("line(0, 0, MIN)", x.line(0, 0, MIN), NONE);
        says("by: NONE: no such ones: line (1 on)");
        byIs(x, 0, 1, 0, 1, 0);
        byIs(x, 1, 1, 1, 1, 0);
        for (int bad : new int[] {0, -1, 2, MAX, MIN}) {
            due("by(0, " + bad + ", 0)", x.by(0, bad, 0), NONE);
        }
        for (int bad : new int[] {-1, 3, MAX, MIN}) {
            due("by(0, 1, " + bad + ")", x.by(0, 1, bad), NONE);
        }
    }

    private static void hangings() {
        CompletionLab x = lab("sign g 1 1;sign f 1 1;axiom f(f(x))=g(x);", 2);
        says("uses: itself isn't that");
        for (int k = 0; k < 4; k++) {
            due("uses(" + k + ", " + k + ")", x.uses(k, k), 0);
        }
        says("uses: somewhere (in its lines, or in theirs, and so on)");
        due("uses(3, 2)", x.uses(3, 2), 1);
        due("uses(3, 1)", x.uses(3, 1), 1);
        due("uses(3, 0)", x.uses(3, 0), 1);
        due("uses(0, 3)", x.uses(0, 3), 0);
        says("users: How many EQUATIONS of a STATE 0 .. 3; NONE: no such ones");
        int[] users = {0, 2, 0, 1};
        for (int state = 0; state < 4; state++) {
            due("users(0, " + state + ")", x.users(0, state), users[state]);
            due("users(3, " + state + ")", x.users(3, state), 0);
        }
        for (int bad : new int[] {-1, 4, MAX, MIN}) {
            due("users(0, " + bad + ")", x.users(0, bad), NONE);
            says("inState: NONE: no such ones");
            due("inState(" + bad + ", 0)", x.inState(bad, 0), NONE);
            due("NONE goes first", x.inState(bad, 99), NONE);
        }
        due("inState(1, -1)", x.inState(1, -1), NONE);
        due("inState(1, MIN)", x.inState(1, MIN), NONE);
        says("inState: -2: there are not so many");
        due("inState(0, 0)", x.inState(0, 0), -2);
        due("inState(1, 0)", x.inState(1, 0), 1);
        due("inState(1, 1)", x.inState(1, 1), 3);
        due("inState(1, 2)", x.inState(1, 2), -2);
        due("inState(3, 2)", x.inState(3, 2), -2);
        due("inState(3, MAX)", x.inState(3, MAX), -2);
        says("next: -2: none WAITS");
        due("next()", x.next(), -2);
        due("next() of a new object", new CompletionLab().next(), -2);
        says("EQUATIONS above 63, 127 are used as others are");
        x = lab("sign a 2 1;axiom a(y,a(a(z,y),y))=a(x,y);", 13);
        int highest = 0;
        for (int k = 128; k < 201; k++) {
            highest = x.uses(k, 131) == 1 ? k : highest;
        }
        holds("one uses number 131", highest > 131);
        due("it isn't used by number 0", x.uses(0, 131), 0);
        due("nor by itself", x.uses(131, 131), 0);
        due("users(0, 0 .. 3)", x.users(0, 0) + x.users(0, 1) + x.users(0, 2) + x.users(0, 3), 200);
    }

    // ---- GOALS

    private static void goals() {
        CompletionLab x = lab(SUM, 2);
        says("goal, goalCode, goalSources, meetsIn: NONE: no such GOAL, no such ones");
        for (int g : new int[] {-1, 2, 3, 4, MAX, MIN}) {
            due("goal(" + g + ", 0)", x.goal(g, 0), NONE);
            due("goalCode(" + g + ", 0, 0)", x.goalCode(g, 0, 0), NONE);
            due("goalCode(" + g + ", 0, 99)", x.goalCode(g, 0, 99), NONE);
            due("goalSources(" + g + ")", x.goalSources(g), NONE);
            due("meetsIn(" + g + ")", x.meetsIn(g), NONE);
        }
        for (int bad : new int[] {-1, 5, MAX, MIN}) {
            due("goal(0, " + bad + ")", x.goal(0, bad), NONE);
            due("goalCode(0, " + bad + ", 0)", x.goalCode(0, bad, 0), NONE);
        }
        due("goalCode(0, 2, 0)", x.goalCode(0, 2, 0), NONE);
        due("goalCode(0, 2, 99)", x.goalCode(0, 2, 99), NONE);
        due("goalCode(0, 0, -1)", x.goalCode(0, 0, -1), NONE);
        due("goalCode(0, 1, MIN)", x.goalCode(0, 1, MIN), NONE);
        says("goalCode: -2: it has not so many");
        due("goalCode(0, 0, 2)", x.goalCode(0, 0, 2), 0);
        due("goalCode(0, 0, 3)", x.goalCode(0, 0, 3), -2);
        due("goalCode(1, 0, 0)", x.goalCode(1, 0, 0), 100);
        due("goalCode(1, 0, 1)", x.goalCode(1, 0, 1), -2);
        due("goalCode(1, 1, MAX)", x.goalCode(1, 1, MAX), -2);
        says("goalSources: as bits (0 of none); -2: it doesn't MEET");
        due("goalSources(0)", x.goalSources(0), 3);
        due("goalSources(1)", x.goalSources(1), -2);
        due("of none", lab("goal x=x;").goalSources(0), 0);
        says("a GOAL's VARIABLES are as SIGNS that nothing is put for");
        x = lab("sign a 0 1;sign f 1 1;axiom f(a)=a;goal f(x)=a;goal f(a)=a;goal x=y;goal f(x)=f(x);", 1);
        int[] meets = {0, 1, 0, 1};
        for (int g = 0; g < 4; g++) {
            due("goal(" + g + ", 0)", x.goal(g, 0), meets[g]);
        }
        counts(x, 22, 2);
        due("goal(0, 3)", x.goal(0, 3), 2);
        due("goal(0, 4)", x.goal(0, 4), 1);
    }

    private static void meetings() {
        says("meetsIn: the least number n 0 .. 40 of STEPS; nothing changes");
        String group = "sign e 0 1;sign m 2 1;sign i 1 1;ratio 3;axiom m(e,x)=x;axiom m(i(x),x)=e;axiom m(m(x,y),z)=m(x,m(y,z));"
                + "goal i(m(a,b))=m(i(b),i(a));goal e=e;goal m(e,x)=x;";
        CompletionLab x = lab(group);
        List<Integer> before = seen(x);
        due("41 are too many", x.meetsIn(0), -2);
        due("0: now", x.meetsIn(1), 0);
        due("1", x.meetsIn(2), 1);
        holds("nothing changes", seen(x).equals(before));
        due("step(1)", x.step(1), 1);
        due("40 are not too many", x.meetsIn(0), 40);
        due("0: now", x.meetsIn(2), 0);
        step(x, 39);
        due("1", x.meetsIn(0), 1);
        due("goal(0, 0)", x.goal(0, 0), 0);
        x.step(1);
        due("0: now", x.meetsIn(0), 0);
        due("goal(0, 0)", x.goal(0, 0), 1);
        says("meetsIn: -2: none, or it is FINISHED ahead of that");
        x = lab(SUM);
        due("meetsIn(1)", x.meetsIn(1), -2);
        due("by the STEP by which it is FINISHED", x.meetsIn(0), 2);
        x.step(2);
        due("meetsIn(1)", x.meetsIn(1), -2);
        due("meetsIn(0)", x.meetsIn(0), 0);
        due("of no axioms", lab("goal x=y;").meetsIn(0), -2);
        due("of no axioms", lab("goal x=x;").meetsIn(0), 0);
        says("meetsIn: -2: FULL ahead of that");
        x = lab(COMPOSED_LAST + "goal a(a(a(x,x),x),x)=a(a(x,x),a(x,x));goal p(x)=x;goal x=x;");
        due("by the STEP that makes it FULL", x.meetsIn(0), 29);
        due("meetsIn(1)", x.meetsIn(1), -2);
        step(x, 28);
        due("by the STEP that makes it FULL", x.meetsIn(0), 1);
        due("goal(0, 0)", x.goal(0, 0), 0);
        due("step(1)", x.step(1), 1);
        counts(x, 20, 1);
        due("goal(0, 0)", x.goal(0, 0), 1);
        due("meetsIn(0)", x.meetsIn(0), 0);
        due("meetsIn(1)", x.meetsIn(1), -2);
        due("meetsIn(2)", x.meetsIn(2), 0);
    }

    // ---- TERMS that the TAPE tells

    private static int reads(CompletionLab x, int call, int n) {
        return call == 0 ? x.normal(n) : call == 1 ? x.compare(n) : x.meet(n);
    }

    private static void readings() {
        String[] names = {"normal", "compare", "meet"};
        for (int call = 0; call < 3; call++) {
            String t = call == 0 ? "f(x)" : "f(x)=a";
            CompletionLab x = lab("sign a 0 1;sign f 1 1;");
            feed(x, t + t);
            says(names[call] + ": -2: there are not so many, n is below 0");
            for (int n : new int[] {-1, 21, 900, MAX, MIN}) {
                due(names[call] + "(" + n + ")", reads(x, call, n), -2);
                counts(x, 23, 20);
            }
            says(names[call] + ": uses the TAPE's first n bytes up");
            int first = reads(x, call, t.length());
            holds("no FAULT", x.fault(0) == 0 && first != NONE && first != -2);
            counts(x, 23, 20 - t.length());
            due("the next n bytes", reads(x, call, t.length()), first);
            counts(x, 23, 20 - 2 * t.length());
            says(names[call] + ": NONE: a FAULT; the bytes are used up");
            int rest = 20 - 2 * t.length();
            due(names[call] + "(rest)", reads(x, call, rest), NONE);
            due("the length", x.fault(1), rest);
            counts(x, 23, 0);
            due(names[call] + "(0)", reads(x, call, 0), NONE);
            due("the length", x.fault(1), 0);
            due(names[call] + "(1)", reads(x, call, 1), -2);
            feed(x, "f(x");
            due("the first byte alone", reads(x, call, 1), NONE);
            due("a bracket lacks", x.fault(1), 1);
            counts(x, 23, 19);
            says("one TERM alone, two TERMS: nothing stands behind");
            text(x, "sign a 0 1;sign f 1 1;");
            feed(x, t + " ;");
            due(t + " ;", reads(x, call, 20), NONE);
            due("its place", x.fault(1), t.length() + 1);
            feed(x, t + "=a");
            due(t + "=a", reads(x, call, 20), NONE);
            due("its place", x.fault(1), t.length());
            feed(x, "goal x=x");
            due("goal x=x", reads(x, call, 20), NONE);
            due("its place", x.fault(1), 0);
        }
        CompletionLab x = lab(SOME);
        says("a T has at most 12 CODES, a LINE 6 VARIABLES at most: of a TERM alone, too");
        due("12 CODES", normal(x, round("f", 11, "a")), 12);
        due("13 CODES", normal(x, round("f", 12, "a")), NONE);
        due("fault(0)", x.fault(0), 2);
        due("fault(1)", x.fault(1), 24);
        due("six", normal(x, "q(q(u,v,w),q(x,y,z),u)"), 10);
        due("a seventh", normal(x, "q(q(u,v,w),q(x,y,z),t)"), NONE);
        due("fault(0)", x.fault(0), 2);
        due("fault(1)", x.fault(1), 20);
        due("six of both", compare(x, "q(u,v,w)=q(x,y,z)"), 3);
        due("a seventh of both", compare(x, "q(u,v,w)=q(x,y,g(z,t))"), NONE);
        due("fault(1)", x.fault(1), 19);
        due("a seventh of both", meet(x, "q(u,v,w)=q(x,y,g(z,t))"), NONE);
        due("each anew", normal(x, "t") + x.told(0, 0), 101);
    }

    private static void tellings() {
        says("told: NONE: none was read");
        CompletionLab x = lab(SUM, 2);
        due("told(0, 0)", x.told(0, 0), NONE);
        due("told(0, -1)", x.told(0, -1), NONE);
        due("NONE goes first", x.told(99, 0), NONE);
        due("a FAULT", normal(x, "p(z"), NONE);
        due("told(0, 0)", x.told(0, 0), NONE);
        due("compare", compare(x, "z=z"), 0);
        due("told(0, 0)", x.told(0, 0), NONE);
        due("normal", normal(x, "p(s(z),x)"), 2);
        says("told: line 0 itself, 1 on by steps; -2 of line 0");
        toldIs(x, 0, -2, -2, -2, 2, 1, 0, 100);
        toldIs(x, 1, 3, 0, 0, 1, 2, 0, 100);
        toldIs(x, 2, 2, 1, 0, 1, 100);
        says("told: -2: there are not so many lines, CODES");
        due("told(0, 4)", x.told(0, 4), -2);
        due("told(2, 2)", x.told(2, 2), -2);
        due("told(2, MAX)", x.told(2, MAX), -2);
        for (int i : new int[] {0, 99, -1, -3, -4}) {
            due("told(3, " + i + ")", x.told(3, i), -2);
            due("told(MAX, " + i + ")", x.told(MAX, i), -2);
            says("told: NONE: no such ones");
            due("told(-1, " + i + ")", x.told(-1, i), NONE);
            due("told(MIN, " + i + ")", x.told(MIN, i), NONE);
        }
        for (int i : new int[] {-2, -5, -6, MIN}) {
            for (int line : new int[] {-1, 0, 1, 2, 3, MAX}) {
                due("told(" + line + ", " + i + ")", x.told(line, i), NONE);
            }
        }
        says("told: of the TERM that normal() read last (without a FAULT)");
        due("a FAULT", normal(x, "p(z,"), NONE);
        due("told(1, 0)", x.told(1, 0), 1);
        due("-2", x.normal(1), -2);
        due("compare", compare(x, "x=z"), 3);
        due("meet", meet(x, "x=z"), 1);
        due("told(1, 0)", x.told(1, 0), 1);
        due("meetsIn, goal, ifStep, open", x.meetsIn(0) + x.goal(0, 0) + x.ifStep(1, 2) + x.open(0), 5);
        toldIs(x, 2, 2, 1, 0, 1, 100);
        due("another one", normal(x, "z"), 1);
        due("told(0, 0)", x.told(0, 0), 0);
        due("told(1, 0)", x.told(1, 0), -2);
    }

    private static void meetingTerms() {
        CompletionLab x = lab(SOME);
        says("met: -2: there was none; NONE: i is below 0");
        due("met(0)", x.met(0), -2);
        due("met(MAX)", x.met(MAX), -2);
        due("met(-1)", x.met(-1), NONE);
        due("met(MIN)", x.met(MIN), NONE);
        says("meet: VARIABLES of both being the same ones");
        due("x = x", meet(x, "x=x"), 1);
        due("x = f(x)", meet(x, "x=f(x)"), -3);
        due("there was none", x.met(0), -2);
        due("g(x,y) = g(y,f(x))", meet(x, "g(x,y)=g(y,f(x))"), -3);
        due("g(x,f(x)) = g(f(y),z)", meet(x, "g(x,f(x))=g(f(y),z)"), 6);
        int[] codes = {2, 1, 101, 1, 1, 101, -2};
        for (int i = 0; i < codes.length; i++) {
            due("met(" + i + ")", x.met(i), codes[i]);
        }
        says("met: of the latest meet() without a FAULT");
        due("a FAULT", meet(x, "f(x)=f"), NONE);
        due("met(1)", x.met(1), 1);
        due("-2", x.meet(1), -2);
        due("compare, normal", compare(x, "f(x)=x") + normal(x, "a"), 2);
        due("met(1)", x.met(1), 1);
        says("met: -2: it has not so many");
        due("met(5)", x.met(5), 101);
        due("met(6)", x.met(6), -2);
        due("met(MAX)", x.met(MAX), -2);
        says("met: of VARIABLES that become one the least number stays");
        due("g(x,g(y,z)) = g(y,g(z,x))", meet(x, "g(x,g(y,z))=g(y,g(z,x))"), 5);
        due("met(4)", x.met(4), 100);
        due("q(z,y,x) = q(y,x,x)", meet(x, "q(z,y,x)=q(y,x,x)"), 4);
        for (int i = 1; i < 4; i++) {
            due("met(" + i + ")", x.met(i), 100);
        }
        due("g(x,q(y,z,u)) = g(a,q(u,z,z))", meet(x, "g(x,q(y,z,u))=g(a,q(u,z,z))"), 6);
        for (int i = 3; i < 6; i++) {
            due("met(" + i + ")", x.met(i), 101);
        }
        says("meet: -3: there is none, or it has more than 60 CODES");
        due("other SIGNS", meet(x, "f(a)=g(x,y)"), -3);
        due("a = f(x)", meet(x, "a=f(x)"), -3);
        due("60", meet(x, "q(x,y,q(u,a,g(a,a)))=q(q(y,y,y),g(z,z),z)"), 60);
        due("met(59)", x.met(59), 0);
        due("met(60)", x.met(60), -2);
        due("61", meet(x, "g(x,g(y,q(u,a,g(a,a))))=g(q(y,y,y),g(g(z,z),z))"), -3);
        due("met(0)", x.met(0), -2);
        due("59", meet(x, "g(x,g(y,q(u,u,u)))=g(q(y,y,y),g(q(z,z,z),z))"), 59);
        due("98", meet(x, "g(x,g(y,q(u,u,q(u,u,u))))=g(q(y,y,y),g(q(z,z,z),z))"), -3);
        due("18", meet(x, "q(x,q(y,z,u),v)=q(q(y,y,y),q(g(z,z),u,a),v)"), 18);
        due("a circle of two", meet(x, "g(x,y)=g(f(y),f(x))"), -3);
        due("a circle by what becomes one", meet(x, "q(x,y,x)=q(f(y),z,z)"), -3);
    }

    // ---- what else is asked

    private static void openings() {
        says("open: NONE for another what");
        CompletionLab x = new CompletionLab();
        for (int what : new int[] {-1, 3, 4, MAX, MIN}) {
            due("open(" + what + ")", x.open(what), NONE);
        }
        says("open: of all that are ACTIVE: none is");
        for (int what = 0; what < 3; what++) {
            due("open(" + what + ")", x.open(what), 0);
            due("open(" + what + ") of WAITING ones", lab("sign f 1 1;axiom f(f(x))=x;").open(what), 0);
        }
        says("open: none left out but those TOO BIG: those that are TWICE, CONNECTED, MET are pairs, too");
        x = lab("sign a 0 1;sign b 0 1;sign f 2 1;ratio 1;axiom f(x,b)=x;axiom f(a,y)=y;", 2);
        due("open(0)", x.open(0), 2);
        due("open(1)", x.open(1), 2);
        x.step(1);
        due("open(0)", x.open(0), 0);
        x = lab("sign f 1 1;axiom f(f(f(x)))=x;", 1);
        due("open(0)", x.open(0), 0);
        due("open(1)", x.open(1), 2);
        due("open(2)", x.open(2), 0);
    }

    private static void ifs() {
        CompletionLab x = lab(SUM);
        normal(x, "s(p(z,x))");
        meet(x, "s(x)=y");
        List<Integer> before = seen(x);
        says("ifStep: NONE: no such ones: n 1 .. 20, what 0 .. 4");
        for (int bad : new int[] {0, -1, 21, MAX, MIN}) {
            due("ifStep(" + bad + ", 0)", x.ifStep(bad, 0), NONE);
        }
        for (int bad : new int[] {-1, 5, MAX, MIN}) {
            due("ifStep(1, " + bad + ")", x.ifStep(1, bad), NONE);
        }
        says("ifStep: behind n 1 .. 20 STEPS; nothing changes");
        int[][] due = {{1, 1, 3, 0, 0}, {2, 0, 4, 1, 0}, {2, 0, 4, 1, 0}};
        for (int what = 0; what < 5; what++) {
            due("ifStep(1, " + what + ")", x.ifStep(1, what), due[0][what]);
            due("ifStep(2, " + what + ")", x.ifStep(2, what), due[1][what]);
            due("ifStep(20, " + what + ")", x.ifStep(20, what), due[2][what]);
        }
        holds("nothing changes", seen(x).equals(before));
        due("of a new object", new CompletionLab().ifStep(20, 3), 1);
        due("of a new object", new CompletionLab().ifStep(1, 0), 0);
        says("ifStep, meetsIn: nothing changes: PROOFS neither");
        x = lab("sign e 0 1;sign m 2 1;sign i 1 1;axiom m(e,x)=x;axiom m(i(x),x)=e;axiom m(m(x,y),z)=m(x,m(y,z));goal m(x,e)=x;", 9);
        CompletionLab y = lab("sign e 0 1;sign m 2 1;sign i 1 1;axiom m(e,x)=x;axiom m(i(x),x)=e;axiom m(m(x,y),z)=m(x,m(y,z));"
                + "goal m(x,e)=x;", 9);
        due("ifStep(20, 2)", x.ifStep(20, 2) > y.count(5) ? 1 : 0, 1);
        due("meetsIn(0)", x.meetsIn(0) > 0 ? 1 : 0, 1);
        for (int step = 0; step < 3; step++) {
            holds("seen", seen(x).equals(seen(y)));
            int k = y.count(5) - 1;
            for (int what = 0; what < 10; what++) {
                due("equation(" + k + ", " + what + ")", equation(x, k, what), equation(y, k, what));
            }
            for (int line = 1; line < equation(y, k, 4); line++) {
                due("line(" + k + ", " + line + ", 1)", x.line(k, line, 1), y.line(k, line, 1));
                due("by(" + k + ", " + line + ", 0)", x.by(k, line, 0), y.by(k, line, 0));
                due("by(" + k + ", " + line + ", 2)", x.by(k, line, 2), y.by(k, line, 2));
            }
            x.step(2);
            y.step(2);
        }
    }

    private static void others() {
        says("needed: -2: none is ACTIVE");
        CompletionLab x = lab("sign a 0 1;axiom a=a;");
        due("needed()", x.needed(), -2);
        x.step(1);
        due("needed()", x.needed(), -2);
        due("needed()", new CompletionLab().needed(), -2);
        says("needed: eight axioms are eight bits");
        x = lab("sign a 0 1;sign b 0 1;ratio 8;axiom a=a;axiom a=a;axiom a=a;axiom a=a;axiom a=a;axiom a=a;axiom a=a;axiom b=a;", 8);
        due("needed()", x.needed(), 128);
        due("equation(8, 7)", equation(x, 8, 7), 128);
        says("sign: NONE: no such ones");
        x = lab("sign zero 0 9;sign abcdef 3 1;sign zzzzzz 1 2;axiom zzzzzz(zzzzzz(x))=x;");
        for (int bad : new int[] {-1, 3, 7, 8, MAX, MIN}) {
            due("sign(" + bad + ", 0)", x.sign(bad, 0), NONE);
        }
        for (int bad : new int[] {-1, 4, MAX, MIN}) {
            due("sign(0, " + bad + ")", x.sign(0, bad), NONE);
        }
        int[][] signs = {{0, 9, 0, 4}, {3, 1, 0, 6}, {1, 2, 0, 6}};
        for (int k = 0; k < 3; k++) {
            for (int what = 0; what < 4; what++) {
                due("sign(" + k + ", " + what + ")", x.sign(k, what), signs[k][what]);
            }
        }
        x.step(1);
        due("in one side of one", x.sign(2, 2), 1);
        x = lab(EIGHT);
        for (int k = 0; k < 8; k++) {
            due("sign(" + k + ", 3)", x.sign(k, 3), 1);
        }
        due("sign(8, 3)", x.sign(8, 3), NONE);
        says("count: NONE for another what");
        for (int bad : new int[] {-1, 24, 25, MAX, MIN}) {
            due("count(" + bad + ")", x.count(bad), NONE);
            due("count(" + bad + ")", new CompletionLab().count(bad), NONE);
        }
        for (int what = 0; what < 24; what++) {
            holds("count(" + what + ")", x.count(what) >= 0);
        }
    }

    private static void nothingChanges() {
        says("What is asked changes nothing but the TAPE, where it is used up");
        CompletionLab x = lab("sign e 0 1;sign m 2 1;sign i 1 1;axiom m(e,x)=x;axiom m(i(x),x)=e;axiom m(m(x,y),z)=m(x,m(y,z));"
                + "goal i(i(x))=x;goal m(x,e)=x;", 7);
        normal(x, "m(m(x,e),i(e))");
        meet(x, "m(x,i(y))=m(y,z)");
        feed(x, "m(x,y)");
        List<Integer> before = seen(x);
        int tape = x.count(23);
        for (int k = -1; k < x.count(5) + 1; k += 3) {
            equation(x, k, 0);
            equation(x, k, 77);
            x.code(k, 0, 0);
            x.line(k, 1, 0);
            x.by(k, 1, 0);
            x.uses(k, 1);
            x.users(k, 1);
            x.overlaps(k, 3);
            x.overlap(k, 3, 0, 6);
        }
        for (int n = -1; n < 6; n++) {
            x.goal(0, n);
            x.goalCode(1, 0, n);
            x.goalSources(n);
            x.meetsIn(n - 2);
            x.told(0, n);
            x.met(n);
            x.open(n);
            x.ifStep(3, n);
            x.sign(0, n);
            x.inState(n, 0);
            x.fault(n);
        }
        x.turnedRank();
        x.bestWeight();
        holds("nothing changes", seen(x).equals(before));
        counts(x, 23, tape);
        due("fault(0)", x.fault(0), 0);
        due("what the TAPE has is a TERM still", x.normal(20), 3);
    }

    // ---- the widest

    private static void widest() {
        String grows = "sign a 0 1;sign f 1 1;sign g 2 1;sign q 3 1;sign k 1 1;sign m 1 1;sign c 0 9;ratio 1;"
                + "axiom c=f(g(a,g(a,g(a,a))));";
        says("an EQUATION of 60 CODES on each side");
        CompletionLab x = lab(grows + "axiom f(q(c,c,q(c,c,q(c,c,c))))=q(c,c,q(c,c,q(c,c,f(c))));", 2);
        equationIs(x, 3, 1, 120, 2, -2, 16, 2, 1 + 14, 3, 2, 0);
        due("the first SIGN of RIGHT has the greater number", x.code(3, 0, 0), 3);
        due("code(3, 0, 59)", x.code(3, 0, 59), 0);
        due("code(3, 0, 60)", x.code(3, 0, 60), -2);
        due("code(3, 1, 0)", x.code(3, 1, 0), 1);
        due("code(3, 1, 1)", x.code(3, 1, 1), 3);
        due("code(3, 1, 59)", x.code(3, 1, 59), 0);
        due("code(3, 1, 60)", x.code(3, 1, 60), -2);
        due("line(3, 0, 59)", x.line(3, 0, 59), 0);
        due("line(3, 7, 10)", x.line(3, 7, 10), 6);
        due("line(3, 7, 11)", x.line(3, 7, 11), -2);
        byIs(x, 3, 7, 2, 0, 2 - 1);
        byIs(x, 3, 8, 1, 0, 0);
        byIs(x, 3, 9, 2, 1, 2);
        due("line(3, 15, 59)", x.line(3, 15, 59), 0);
        due("line(3, 15, 60)", x.line(3, 15, 60), -2);
        due("line(3, 16, 0)", x.line(3, 16, 0), NONE);
        says("SUBSUMED by such ones, too");
        x = lab(grows + "axiom k(x)=m(y);axiom k(q(c,c,q(c,c,q(c,c,c))))=m(q(c,c,q(c,c,q(c,c,c))));"
                + "axiom m(q(c,c,q(c,c,q(c,c,c))))=k(q(c,c,q(c,c,q(c,c,c))));", 4);
        due("equation(2, 3)", equation(x, 2, 3), 2);
        due("equation(3, 3)", equation(x, 3, 3), 2);
        says("REDUCES: to a TERM of 60 CODES at PLACE 0");
        x = lab("sign a 0 1;sign f 1 1;sign g 2 1;sign q 3 1;sign v 1 1;sign u 1 2;sign c 0 9;ratio 1;axiom c=f(g(a,g(a,g(a,a))));"
                + "axiom u(q(x,y,f(z)))=v(q(x,y,f(z)));", 2);
        due("normal", normal(x, "u(q(q(c,c,c),q(c,c,c),c))"), 60);
        due("told(7, 0)", x.told(7, 0), 5);
        due("told(8, 0)", x.told(8, 0), 4);
        due("told(8, 59)", x.told(8, 59), 0);
        says("REDUCES: never, if it would be more than 60 at PLACE 0");
        x = lab("sign a 0 1;sign f 1 1;sign g 2 1;sign q 3 1;sign h 1 9;sign c 0 9;ratio 1;axiom c=f(g(a,g(a,g(a,a))));"
                + "axiom h(q(x,y,f(z)))=g(g(a,a),q(x,y,f(z)));", 2);
        due("normal", normal(x, "h(q(q(c,c,c),q(c,c,c),c))"), 60);
        due("told(7, 0)", x.told(7, 0), 4);
        due("told(8, 0)", x.told(8, 0), -2);
        due("of c's one less", normal(x, "h(q(q(c,c,c),q(c,c,a),c))"), 56);
        due("told(7, 0)", x.told(7, 0), 2);
        says("VARIABLES of one: 12 at most");
        x = lab("sign a 0 1;sign f 1 9;sign g 2 1;sign q 3 1;most 30;ratio 1;axiom f(a)=g(q(x,y,z),q(u,v,w));axiom q(f(a),f(a),a)=a;", 7);
        due("equation(25, 0)", equation(x, 25, 0), 1);
        due("equation(25, 9)", equation(x, 25, 9), 12);
        due("the twelfth", x.code(25, 0, 18), 111);
        due("normal: it doesn't fit", normal(x, "q(g(a,a),a,a)"), 6);
        due("step(20)", x.step(20), 20);
        says("REDUCES a TERM at a PLACE: where its from side is a VARIABLE, any that is GREATER than its to side");
        x = lab("sign a 0 1;sign b 0 1;sign f 1 1;axiom x=a;", 1);
        equationIs(x, 1, 2, 2, 2, -2, 2, 1, 1, 1, 1, 1);
        due("f(b)", normal(x, "f(b)"), 1);
        toldIs(x, 1, 1, 0, 0, 0);
        due("told(2, 0)", x.told(2, 0), -2);
        due("b", normal(x, "b"), 1);
        toldIs(x, 1, 1, 0, 0, 0);
        due("f(f(x)): x isn't, but what it is in", normal(x, "f(f(x))"), 1);
        due("x", normal(x, "x"), 1);
        due("told(1, 0)", x.told(1, 0), -2);
        due("a", normal(x, "a"), 1);
        due("told(1, 0)", x.told(1, 0), -2);
    }

    private static void sixties() {
        String begin = "sign a 0 1;sign g 2 1;sign q 3 1;sign h 1 9;";
        String left = "axiom q(y,y,q(y,g(z,z),z))=";
        String ground = "axiom q(w,w,q(w,w,q(a,a,g(a,a))))=";
        says("OVERLAPS: neither to side may be GREATER: asked, if PEAK has 60 CODES");
        CompletionLab x = lab(begin + left + "a;" + ground + round("h", 7, "v") + ";" + ground + "v;");
        due("y's to side of 8 CODES is GREATER", x.overlaps(0, 1), 0);
        due("a VARIABLE alone isn't; the other WAY it is put at PLACES 0, 3, 5", x.overlaps(0, 2), 1 + 3);
        overlapIs(x, 0, 2, 0, 0, 0, 0, 60, 1, 1);
        says("OVERLAPS: asked, if y's side has 60 CODES");
        String apart = "axiom q(w,t,q(w,w,q(a,a,g(a,a))))=";
        x = lab(begin + left + "a;" + apart + round("h", 6, "q(w,w,g(w,w))") + ";" + apart + round("h", 7, "q(w,w,w)") + ";");
        due("GREATER so at PLACE 0, not at PLACE 3", x.overlaps(0, 1), 1);
        overlapIs(x, 0, 1, 0, 0, 0, 3);
        due("of 47 CODES", x.overlaps(0, 2), 1);
        overlapIs(x, 0, 2, 0, 0, 0, 3);
        says("OVERLAPS: asked, if x's side has 60 CODES");
        x = lab(begin + left + round("h", 6, "q(y,y,g(y,y))") + ";" + ground + "a;");
        due("GREATER so", x.overlaps(0, 1), 0);
        says("OVERLAPS: not asked, if y's side has more than 60 CODES");
        x = lab("sign a 0 1;sign g 2 1;sign q 3 1;sign h 1 9;axiom q(y,y,q(y,g(z,z),z))=a;"
                + "axiom q(w,t,q(w,w,q(a,a,g(a,a))))=h(q(w,w,q(w,w,w)));");
        due("y's side has 68 at PLACE 0", x.overlaps(0, 1), 2);
        overlapIs(x, 0, 1, 0, 0, 0, 0, 60, 61, 1, 0);
        overlapIs(x, 0, 1, 1, 0, 0, 3);
        says("WAYS: 1 alone, if its RIGHT is GREATER: of more than 60 CODES, too");
        x = lab("sign a 0 1;sign g 2 1;sign q 3 1;sign h 1 9;axiom q(g(y,y),g(y,g(z,z)),z)=a;"
                + "axiom q(x,g(w,w),q(u,a,g(a,a)))=h(h(h(q(x,g(w,w),u))));axiom q(x,g(w,w),q(u,a,g(a,a)))=h(h(h(q(x,x,u))));");
        due("RIGHT is GREATER", x.overlaps(0, 1), 0);
        due("neither is", x.overlaps(0, 2), 1);
    }

    private static void backwards() {
        says("PROOF: forth (LEFT to RIGHT) or back: COLLAPSED, COMPOSED by the WAY from RIGHT to LEFT");
        CompletionLab x = lab("sign a 0 1;sign b 0 1;sign k 1 1;sign f 1 1;sign g 2 1;sign m 1 1;sign c 0 9;ratio 1;"
                + "axiom k(g(f(a),f(b)))=a;axiom m(x)=g(f(a),f(b));axiom c=g(f(a),f(b));axiom g(a,f(x))=g(x,f(b));", 4);
        due("FLAT", equation(x, 8, 0), 2);
        due("COLLAPSED", equation(x, 9, 2), 3);
        lineIs(x, 9, 0, 2, 4, 0, 3, 3, 0);
        lineIs(x, 9, 1, 2, 4, 3, 0, 3, 1);
        lineIs(x, 9, 2, 0);
        byIs(x, 9, 1, 8, 1, 1);
        byIs(x, 9, 2, 4, 1, 0);
        due("COLLAPSED", equation(x, 10, 2), 3);
        lineIs(x, 10, 0, 5, 100);
        lineIs(x, 10, 1, 4, 3, 0, 3, 1);
        lineIs(x, 10, 2, 4, 0, 3, 3, 0);
        byIs(x, 10, 1, 5, 1, 0);
        byIs(x, 10, 2, 8, 0, 0);
        due("COMPOSED", equation(x, 11, 2), 4);
        byIs(x, 11, 1, 7, 1, 0);
        byIs(x, 11, 2, 8, 0, 0);
        says("PROOF of a pair: to PEAK, to the other side, by the WAYS of y, of x");
        x = lab("sign a 0 1;sign b 0 1;sign k 1 1;sign f 1 1;sign g 2 1;ratio 1;axiom g(a,f(x))=g(x,f(b));axiom f(x)=k(y);", 2);
        sidesAre(x, 4, codes(4, 0, 2, 100), codes(4, 101, 3, 1));
        lineIs(x, 4, 1, 4, 0, 3, 101);
        byIs(x, 4, 1, 3, 0, 2);
        byIs(x, 4, 2, 2, 1, 0);
        sidesAre(x, 5, codes(4, 100, 2, 101), codes(4, 0, 3, 100));
        lineIs(x, 5, 1, 4, 100, 3, 1);
        byIs(x, 5, 1, 3, 0, 2);
        byIs(x, 5, 2, 2, 0, 0);
        says("PROOF of what is TAKEN UP: back to that side, through the picked one, to the other NORMAL FORM");
        x = lab("sign a 0 1;sign b 0 1;sign k 1 1;sign f 1 1;sign g 2 1;sign c 0 9;ratio 1;axiom g(a,f(x))=g(x,f(b));"
                + "axiom c=g(f(f(a)),f(b));axiom g(f(f(a)),f(b))=a;axiom k(g(f(x),y))=a;", 4);
        byIs(x, 5, 1, 1, 1, 0);
        byIs(x, 5, 2, 4, 0, 0);
        lineIs(x, 5, 1, 4, 3, 3, 0, 3, 1);
        lineIs(x, 5, 2, 4, 0, 3, 3, 3, 0);
        byIs(x, 6, 1, 4, 1, 0);
        byIs(x, 6, 2, 2, 1, 0);
        lineIs(x, 6, 1, 4, 3, 3, 0, 3, 1);
        lineIs(x, 6, 2, 0);
        byIs(x, 9, 1, 4, 1, 1);
        byIs(x, 9, 2, 8, 1, 0);
        lineIs(x, 9, 1, 2, 4, 3, 100, 3, 1);
    }

    private static void eights() {
        says("TWICE: as an axiom that WAITS, number 0");
        CompletionLab x = lab("sign g 1 1;sign f 1 1;axiom f(g(x))=g(f(x));axiom f(f(x))=g(x);", 1);
        due("the smaller one is TAKEN UP", equation(x, 1, 3), 0);
        counts(x, 18, 1);
        counts(x, 19, 0);
        x = lab("sign g 1 1;sign f 1 1;axiom g(f(y))=f(g(y));axiom f(f(x))=g(x);", 1);
        counts(x, 18, 1);
        counts(x, 19, 0);
        says("turnedRank, bestWeight: of eight axioms, none of which can be turned");
        StringBuilder all = new StringBuilder("sign a 0 1;sign b 0 1;");
        for (int k = 0; k < 8; k++) {
            all.append("axiom x=y;");
        }
        x = lab(all.toString());
        due("turnedRank()", x.turnedRank(), 8);
        due("bestWeight()", x.bestWeight(), 0);
        says("goal, at most 4: each of them");
        x = lab("sign a 0 1;sign f 1 1;goal a=f(a);goal x=f(f(x));goal f(f(f(x)))=y;goal f(x)=f(x);");
        int[][] sizes = {{1, 2}, {1, 3}, {4, 1}, {2, 2}};
        for (int g = 0; g < 4; g++) {
            due("goal(" + g + ", 3)", x.goal(g, 3), sizes[g][0]);
            due("goal(" + g + ", 4)", x.goal(g, 4), sizes[g][1]);
            due("goal(" + g + ", 0)", x.goal(g, 0), g == 3 ? 1 : 0);
            due("goalCode(" + g + ", 1, last)", x.goalCode(g, 1, sizes[g][1] - 1), g == 0 ? 0 : g == 2 ? 101 : 100);
        }
    }

    public static void main(String[] args) {
        tapes();
        texts();
        words();
        firstFaults();
        muchFaults();
        toldFaults();
        orders();
        rankedOtherwise();
        fullOfEquations();
        fullOfComposed();
        fullOfActives();
        reductions();
        limits();
        picks();
        takings();
        simplifications();
        overlapPlaces();
        bigOverlaps();
        tooBigPairs();
        sortedPairs();
        lengths();
        longProofs();
        equations();
        codesAndLines();
        hangings();
        goals();
        meetings();
        readings();
        tellings();
        meetingTerms();
        openings();
        ifs();
        others();
        nothingChanges();
        widest();
        sixties();
        backwards();
        eights();
        System.out.println("BoundaryTest: " + passed + " as due, " + wrong + " not");
        if (wrong > 0) {
            System.exit(1);
        }
    }
}
