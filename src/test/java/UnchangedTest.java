import java.util.ArrayList;
import java.util.List;

/**
 * A call that throws an exception changes nothing: an object that had such a call answers all that
 * can be asked like one that had none. Each is asked in parts, each part on an object of its own,
 * for no object is used for more than 512 calls.
 */
public final class UnchangedTest {
    private static final String BEGIN = """
        addClass t + true
        addClass c + false
        addClass t 0 false
        addClass c 0 true
        addClass t = false
        addClass t 0 true
        variable
        lay 2 -1
        lay 0 1
        lay 0 0
        lay 0 2
        lay 0 4
        lay 0 5
        lay 0 6
        extend 1 0 -2
        extend 3 1 1
        extend 3 2 -1
        lay 3 -1
        lay 1 8
        define 0 0 v 5 0
        define 1 0 s 7 0
        define 3 1 o 1 0
        define 3 2 o 1 2
        define 2 3 a 0 0
        define 3 3 v 9 0
        defineField 0 0 3 -1
        defineField 1 1 4 0
        defineField 3 2 5 1
        openScope -1
        openScope 0
        openScope 0
        openScope -1
        give 0 1 -1 -1
        give 1 3 0 -1
        giveBeside 2 1 -1 -1
        isBelow 8 1
        isBelow 9 2
        """;

    private static final String THROWING = """
        addClass x + true = IllegalArgumentException
        addClass t x true = IllegalArgumentException
        extend 6 0 1 = IndexOutOfBoundsException
        extend 5 6 1 = IndexOutOfBoundsException
        extend 5 0 99 = NoSuchElementException
        extend 5 5 -1 = IllegalArgumentException
        extend 5 0 -1 = IllegalArgumentException
        extend 5 0 -2 = IllegalArgumentException
        extend 5 0 0 = IllegalArgumentException
        extend 3 0 2 = UnsupportedOperationException
        extend 3 1 1 = IllegalStateException
        extend 2 0 1 = IllegalStateException
        extend 4 0 0 = IllegalArgumentException
        lineSize 6 = IndexOutOfBoundsException
        lineAt 3 9 = NoSuchElementException
        lay 6 -1 = IndexOutOfBoundsException
        lay 0 99 = NoSuchElementException
        lay 0 -1 = IllegalArgumentException
        lay 2 1 = IllegalArgumentException
        lay 0 7 = IllegalStateException
        number 99 = NoSuchElementException
        base 99 0 = NoSuchElementException
        base 1 6 = IndexOutOfBoundsException
        base 0 0 = IllegalArgumentException
        base 1 0 = UnsupportedOperationException
        isBelow 0 1 = IllegalArgumentException
        isBelow 1 99 = NoSuchElementException
        define 6 0 v 1 0 = IndexOutOfBoundsException
        define 0 8 v 1 0 = IllegalArgumentException
        define 0 0 x 1 0 = IllegalArgumentException
        define 0 0 v 100 0 = IllegalArgumentException
        define 0 4 s -1 0 = IllegalArgumentException
        define 0 0 o 1 8 = IllegalArgumentException
        define 5 5 o 100 0 = IllegalArgumentException
        defineField 6 0 1 -1 = IndexOutOfBoundsException
        defineField 0 8 1 -1 = IllegalArgumentException
        defineField 0 0 100 -1 = IllegalArgumentException
        defineField 5 5 -1 -1 = IllegalArgumentException
        defineField 0 1 1 8 = IllegalArgumentException
        isAdmitted 6 = IndexOutOfBoundsException
        call 0 0 = IllegalStateException
        call 3 2 = UnsupportedOperationException
        call 3 7 = NoSuchElementException
        callAnew 3 2 = UnsupportedOperationException
        callAnew 2 3 = IllegalStateException
        definer 3 7 = NoSuchElementException
        fieldOf 3 7 = NoSuchElementException
        openScope 4 = IndexOutOfBoundsException
        give 4 1 -1 -1 = IndexOutOfBoundsException
        give 0 99 -1 -1 = NoSuchElementException
        give 0 0 -1 -1 = IllegalArgumentException
        give 0 1 0 -1 = IllegalArgumentException
        giveBeside 6 1 -1 -1 = IndexOutOfBoundsException
        giveBeside 0 1 99 -1 = NoSuchElementException
        giveBeside 0 0 -1 -1 = IllegalArgumentException
        giveBeside 0 1 -1 3 = IllegalArgumentException
        look 4 1 = IndexOutOfBoundsException
        look 0 0 = IllegalArgumentException
        find 2 9 = UnsupportedOperationException
        findAnew 2 9 = UnsupportedOperationException
        used 2 9 = UnsupportedOperationException
        leaves 1 = UnsupportedOperationException
        missing 0 64 = IllegalArgumentException
        missing 1 0 = UnsupportedOperationException
        needless 0 65536 = IllegalArgumentException
        needless 1 0 = UnsupportedOperationException
        """;

    /** Fills a guild up, so that the calls for which there is no room can be tried. */
    private static final String FULL = "addClass t 0 false\n".repeat(10) + "variable\n".repeat(110)
        + "openScope -1\n" + "give 0 1 -1 -1\n".repeat(7);

    private static final String THROWING_FULL = """
        addClass t 0 false = IllegalStateException
        variable = IllegalStateException
        lay 3 -1 = IllegalStateException
        openScope -1 = IllegalStateException
        give 3 1 -1 -1 = IllegalStateException
        giveBeside 3 1 -1 -1 = IllegalStateException
        """;

    private static int wrong = 0;
    private static int tried = 0;

    public static void main(String[] arguments) {
        tryAll(BEGIN, THROWING);
        tryAll(BEGIN + FULL, THROWING_FULL);
        System.out.println("UnchangedTest: " + tried + " calls that throw, " + wrong + " wrong");
        if (wrong > 0) {
            System.exit(1);
        }
    }

    private static void tryAll(String begin, String throwing) {
        List<List<String>> parts = parts();
        List<List<String>> due = new ArrayList<>();
        for (List<String> part : parts) {
            due.add(answers(begin, null, null, part));
        }
        for (String line : throwing.split("\n")) {
            String[] halves = line.split(" = ");
            tried++;
            for (int at = 0; at < parts.size(); at++) {
                List<String> got = answers(begin, halves[0], halves[1], parts.get(at));
                for (int which = 0; which < got.size(); which++) {
                    if (!got.get(which).equals(due.get(at).get(which))) {
                        wrong++;
                        System.out.println("behind " + halves[0] + ": " + parts.get(at).get(which) + " answers "
                            + got.get(which) + ", due is " + due.get(at).get(which));
                    }
                }
            }
        }
    }

    private static List<String> answers(String begin, String call, String exception, List<String> part) {
        Guild program = new Program();
        for (String line : begin.split("\n")) {
            String answer = Script.ask(program, line);
            if (answer.endsWith("Exception")) {
                throw new Error("the beginning is refused: " + line + ", " + answer);
            }
        }
        if (call != null) {
            String got = Script.ask(program, call);
            if (!got.equals(exception)) {
                wrong++;
                System.out.println(call + " answers " + got + ", due is " + exception);
            }
        }
        return part.stream().map(line -> Script.ask(program, line)).toList();
    }

    private static List<List<String>> parts() {
        List<String> classes = new ArrayList<>();
        List<String> types = new ArrayList<>();
        List<String> givens = new ArrayList<>();
        for (int type = 0; type < 7; type++) {
            classes.add("lineSize " + type);
            classes.add("isAdmitted " + type);
            classes.add("leaves " + type);
            classes.add("missing " + type + " 0");
            classes.add("needless " + type + " 63");
            for (int which = 0; which < 8; which++) {
                classes.add("lineAt " + type + " " + which);
                classes.add("call " + type + " " + which);
                classes.add("callAnew " + type + " " + which);
                classes.add("definer " + type + " " + which);
                classes.add("fieldOf " + type + " " + which);
            }
        }
        for (int node = 0; node < 11; node++) {
            types.add("number " + node);
            for (int other = 0; other < 10; other++) {
                types.add("isBelow " + node + " " + other);
                types.add("base " + node + " " + other);
            }
            for (int scope = 0; scope < 4; scope++) {
                givens.add("look " + scope + " " + node);
                givens.add("find " + scope + " " + node);
                givens.add("findAnew " + scope + " " + node);
                givens.add("used " + scope + " " + node);
            }
        }
        List<String> figures = List.of("compared", "admittedShare", "meanLine", "isSound", "define 0 0 a 0 0",
            "define 3 1 a 0 0", "define 5 7 a 0 0", "defineField 0 0 0 -1", "defineField 5 0 0 -1",
            "extend 5 2 -1", "extend 5 4 1", "extend 5 0 2", "extend 5 3 -1", "addClass c 0 false", "variable",
            "openScope -1", "openScope -1", "give 0 1 -1 -1", "giveBeside 0 1 -1 -1", "compared");
        return List.of(classes, types, givens, figures);
    }
}
