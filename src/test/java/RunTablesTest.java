import java.io.IOException;
import java.nio.file.Files;
import java.nio.file.Path;
import java.util.ArrayList;
import java.util.List;
import java.util.NoSuchElementException;

/**
 * Runs of calls, each on a new object, with the answers of a second program that was written from the document
 * alone, on TERMS as trees: src/test/runs, a line "call numbers = answer" each.
 */
public final class RunTablesTest {
    private static int wrong = 0;
    private static int asked = 0;

    private static String answer(CompletionLab x, String call, int[] n) {
        try {
            return String.valueOf(number(x, call, n));
        } catch (IndexOutOfBoundsException e) {
            return e.getClass() == IndexOutOfBoundsException.class && call.equals("equation") ? "IOOBE" : e.toString();
        } catch (NoSuchElementException e) {
            return call.equals("equation") ? "NSEE" : e.toString();
        } catch (RuntimeException e) {
            return "thrown by the machine: " + e;
        }
    }

    private static int number(CompletionLab x, String call, int[] n) {
        switch (call) {
            case "feed": return x.feed(n[0], n[1], n[2], n[3], n[4]);
            case "text": return x.text(n[0]);
            case "fault": return x.fault(n[0]);
            case "step": return x.step(n[0]);
            case "equation": return x.equation(n[0], n[1]);
            case "code": return x.code(n[0], n[1], n[2]);
            case "line": return x.line(n[0], n[1], n[2]);
            case "by": return x.by(n[0], n[1], n[2]);
            case "uses": return x.uses(n[0], n[1]);
            case "users": return x.users(n[0], n[1]);
            case "inState": return x.inState(n[0], n[1]);
            case "next": return x.next();
            case "goal": return x.goal(n[0], n[1]);
            case "goalCode": return x.goalCode(n[0], n[1], n[2]);
            case "goalSources": return x.goalSources(n[0]);
            case "meetsIn": return x.meetsIn(n[0]);
            case "normal": return x.normal(n[0]);
            case "told": return x.told(n[0], n[1]);
            case "compare": return x.compare(n[0]);
            case "meet": return x.meet(n[0]);
            case "met": return x.met(n[0]);
            case "overlaps": return x.overlaps(n[0], n[1]);
            case "overlap": return x.overlap(n[0], n[1], n[2], n[3]);
            case "open": return x.open(n[0]);
            case "ifStep": return x.ifStep(n[0], n[1]);
            case "needed": return x.needed();
            case "turnedRank": return x.turnedRank();
            case "bestWeight": return x.bestWeight();
            case "sign": return x.sign(n[0], n[1]);
            case "count": return x.count(n[0]);
            default: throw new IllegalStateException("no such call: " + call);
        }
    }

    private static void replay(Path table) throws IOException {
        CompletionLab x = new CompletionLab();
        List<String> lines = Files.readAllLines(table);
        for (int i = 0; i < lines.size(); i++) {
            String[] halves = lines.get(i).split(" = ");
            String[] words = halves[0].split(" ");
            int[] n = new int[words.length - 1];
            for (int k = 0; k < n.length; k++) {
                n[k] = Integer.parseInt(words[k + 1]);
            }
            String got = answer(x, words[0], n);
            asked++;
            if (!got.equals(halves[1])) {
                wrong++;
                System.out.println(table + ":" + (i + 1) + ": " + halves[0] + " answered " + got + ", due is " + halves[1]);
            }
        }
    }

    public static void main(String[] args) throws IOException {
        List<Path> tables = new ArrayList<>();
        try (var files = Files.list(Path.of("src/test/runs"))) {
            files.filter(f -> f.toString().endsWith(".txt")).sorted().forEach(tables::add);
        }
        for (Path table : tables) {
            replay(table);
        }
        System.out.println("RunTablesTest: " + tables.size() + " runs, " + asked + " calls, " + wrong + " wrong");
        if (wrong > 0 || tables.isEmpty()) {
            System.exit(1);
        }
    }
}
