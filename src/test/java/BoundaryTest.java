import java.util.TreeSet;

/**
 * A run of its own for each sentence of the document that names a boundary, promise by promise:
 * the last value that is fine and the first one that is not, on both sides; what is empty and what
 * is full; which exception comes first. Script asks behind each refused call whether it changed
 * anything.
 */
public final class BoundaryTest {
    private static final Script SCRIPT = new Script();
    private static final TreeSet<Integer> PROMISES = new TreeSet<>();

    /** Numbers that are far from any that exists. */
    private static final String[] FAR = {"-2147483648", "2147483647", "65536", "-65536", "256"};

    public static void main(String[] arguments) {
        newObject();
        addClass();
        extendNumbers();
        extendArguments();
        extendState();
        extendBases();
        extendOrder();
        lines();
        variable();
        lay();
        layOrder();
        number();
        base();
        isBelow();
        isBelowAgain();
        define();
        defineField();
        isAdmitted();
        calls();
        callsGoneInto();
        callsOrder();
        definer();
        fieldOf();
        openScope();
        gives();
        givesOrder();
        finds();
        findsFitting();
        findsLevels();
        findsCounting();
        findsDeep();
        findsOrder();
        used();
        leaves();
        missing();
        needless();
        compared();
        shares();
        isSound();
        for (int promise = 1; promise <= 31; promise++) {
            if (!PROMISES.contains(promise)) {
                throw new Error("promise " + promise + " has no run");
            }
        }
        SCRIPT.close("BoundaryTest");
    }

    private static void edge(int promise, String sentence, String... run) {
        PROMISES.add(promise);
        SCRIPT.play("promise " + promise + ", " + sentence, String.join("\n", run));
    }

    // What begins many runs

    /** Classes without a parameter, by their kind. */
    private static String classes(char kind, int from, int to) {
        StringBuilder run = new StringBuilder();
        for (int type = from; type < to; type++) {
            run.append("addClass ").append(kind).append(" 0 false -> ").append(type).append('\n');
        }
        return run.toString();
    }

    /** Classes 'c', each with the one before it as its parent. */
    private static String chain(int count) {
        StringBuilder run = new StringBuilder(classes('c', 0, count));
        for (int type = 1; type < count; type++) {
            run.append("extend " + type + " " + (type - 1) + " -1 -> " + (type + 1) + "\n");
        }
        return run.toString();
    }

    private static String variables(int from, int to) {
        StringBuilder run = new StringBuilder();
        for (int node = from; node < to; node++) {
            run.append("variable -> ").append(node).append('\n');
        }
        return run.toString();
    }

    /** Lays a class around the last node until it is of a depth; the first one is laid. */
    private static String around(int type, int first, int last) {
        StringBuilder run = new StringBuilder();
        for (int node = first + 1; node <= last; node++) {
            run.append("lay " + type + " " + (node - 1) + " -> " + node + "\n");
        }
        return run.toString();
    }

    private static String refused(String exception, String call, String... words) {
        StringBuilder run = new StringBuilder();
        for (String word : words) {
            run.append(call.replace("?", word)).append(" -> ").append(exception).append('\n');
        }
        return run.toString();
    }

    private static String far(String exception, String call) {
        return refused(exception, call, FAR);
    }

    private static String asked(String place, String look, String given, String used) {
        return "look " + place + " -> " + look + "\nfind " + place + " -> " + given + "\nfindAnew " + place
            + " -> " + given + "\nused " + place + " -> " + used + "\n";
    }

    private static String notFound(String place) {
        return asked(place, "n", "UOE", "UOE");
    }

    private static String ambiguous(String place) {
        return asked(place, "a", "UOE", "UOE");
    }

    /** The four calls that look for a given, all refused in the same way. */
    private static String noAsking(String place, String exception) {
        return asked(place, exception, exception, exception);
    }

    // Promise 1

    private static void newObject() {
        String[] calls = {"lineSize 0", "lineAt 0 0", "extend 0 0 -1", "extend 0 0 -2", "extend 0 0 0", "isAdmitted 0",
            "define 0 0 v 0 0", "defineField 0 0 0 -1", "call 0 0", "callAnew 0 0", "definer 0 0", "fieldOf 0 0",
            "leaves 0", "missing 0 0", "needless 0 0", "lay 0 -1", "giveBeside 0 0 -1 -1"};
        edge(1, "no classes", refused("IOOBE", "?", calls), "addClass c 0 false -> 0");
        edge(1, "no nodes", classes('c', 0, 1), "openScope -1 -> 0",
            refused("NSEE", "?", "number 0", "base 0 0", "isBelow 0 0", "lay 0 0", "extend 0 0 0", "give 0 0 -1 -1",
                "giveBeside 0 0 -1 -1", "look 0 0", "find 0 0", "findAnew 0 0", "used 0 0"), "variable -> 0");
        edge(1, "no scopes", classes('c', 0, 1), "lay 0 -1 -> 0", "openScope 0 -> IOOBE", "give 0 0 -1 -1 -> IOOBE",
            noAsking("0 0", "IOOBE"), "openScope -1 -> 0");
        edge(1, "no givens", classes('c', 0, 1), "lay 0 -1 -> 0", "openScope -1 -> 0", notFound("0 0"),
            "give 0 0 -1 -1 -> 0");
        edge(1, "nothing was compared, and there is no share", "compared -> 0", "admittedShare -> AE", "meanLine -> AE",
            "isSound -> true");
    }

    // Promise 2

    private static void addClass() {
        edge(2, "no such kind",
            refused("IAE", "addClass ? 0 false", "s", "u", "b", "d", "T", "C", "0", "000", "65535", "372", "355"),
            "addClass t 0 false -> 0", "addClass c 0 false -> 1", "addClass 116 48 false -> 2",
            "addClass 99 48 false -> 3", "lineSize 3 -> 1", "lineSize 4 -> IOOBE");
        edge(2, "no such variance",
            refused("IAE", "addClass c ? true", "42", "44", "46", "47", "49", "60", "62", "000", "65535", "t", "304"),
            "addClass c + true -> 0", "addClass c - true -> 1", "addClass c = true -> 2", "addClass c 0 true -> 3",
            "lineSize 3 -> 1", "lineSize 4 -> IOOBE");
        edge(2, "without parents", "addClass t + true -> 0", "addClass c - false -> 1", "lineSize 0 -> 1",
            "lineSize 1 -> 1", "lineAt 0 0 -> 0", "lineAt 1 0 -> 1");
        edge(2, "there are 16 classes", classes('t', 0, 15), "lineSize 15 -> IOOBE", "addClass c = true -> 15",
            "lineSize 15 -> 1", refused("ISE", "addClass ? false", "t 0", "c 0", "t +", "c -", "c ="),
            "addClass t 0 true -> ISE", "lineSize 15 -> 1", "lineSize 16 -> IOOBE");
        edge(2, "the kind and the variance come before there being 16", classes('t', 0, 16),
            "addClass x 0 false -> IAE", "addClass t x false -> IAE", "addClass x x false -> IAE");
        edge(2, "whether it is sealed, for each kind", "addClass t 0 true -> 0", "addClass t 0 false -> 1",
            "addClass c 0 true -> 2", "addClass c 0 false -> 3", "leaves 0 -> 0", "leaves 1 -> UOE", "leaves 2 -> 1",
            "leaves 3 -> UOE");
    }

    // Promise 3

    private static void extendNumbers() {
        edge(3, "no such class, for the class", classes('t', 0, 2), refused("IOOBE", "extend ? 0 -1", "-1", "2", "-2"),
            far("IOOBE", "extend ? 0 -1"), "extend 1 0 -1 -> 2");
        edge(3, "no such class, for the parent", classes('t', 0, 2), refused("IOOBE", "extend 1 ? -1", "-1", "2", "-2"),
            far("IOOBE", "extend 1 ? -1"), "extend 1 0 -1 -> 2");
        edge(3, "no such class of 16", classes('t', 0, 16), "extend 16 15 -1 -> IOOBE", "extend 15 16 -1 -> IOOBE",
            "extend 15 14 -1 -> 2");
        edge(3, "no such node, but for -1 and -2", "addClass t = false -> 0", "addClass t = false -> 1",
            "addClass t = false -> 2", classes('c', 3, 5), "lay 3 -1 -> 0", "lay 3 -1 -> 1",
            refused("NSEE", "extend 1 0 ?", "-3", "2", "-4"), far("NSEE", "extend 1 0 ?"), "extend 1 0 1 -> 2",
            "extend 2 0 -2 -> 2", "extend 4 3 -1 -> 2");
        edge(3, "no such node of 120", "addClass t = false -> 0", classes('c', 1, 2), variables(0, 118),
            "lay 1 -1 -> 118", "extend 1 0 119 -> NSEE", "lay 1 -1 -> 119", "extend 1 0 120 -> NSEE",
            "extend 1 0 119 -> 2");
        edge(3, "the parent has no lower number", classes('t', 0, 4), "extend 2 3 -1 -> IAE", "extend 2 2 -1 -> IAE",
            "extend 0 0 -1 -> IAE", "extend 0 3 -1 -> IAE", "extend 3 3 -1 -> IAE", "extend 3 2 -1 -> 2",
            "extend 2 0 -1 -> ISE", "extend 1 0 -1 -> 2");
    }

    private static void extendArguments() {
        String begin = """
            addClass t = false -> 0
            addClass t 0 false -> 1
            addClass c 0 false -> 2
            addClass c = false -> 3
            variable -> 0
            lay 1 -1 -> 1
            """;
        edge(3, "the parent has a parameter and there is no argument", begin, "extend 2 0 -1 -> IAE",
            "extend 3 0 -1 -> IAE", "extend 2 0 1 -> 2", "extend 3 0 -2 -> 2");
        edge(3, "or the other way round", begin, "extend 2 1 1 -> IAE", "extend 3 1 -2 -> IAE", "extend 3 1 1 -> IAE",
            "extend 2 1 -2 -> IAE", "extend 2 1 0 -> IAE", "extend 2 1 -1 -> 2", "extend 3 1 -1 -> 2");
        edge(3, "the class has no parameter for -2", begin, "extend 2 0 -2 -> IAE", "extend 1 0 -2 -> IAE",
            "extend 3 0 -2 -> 2", "lineSize 2 -> 1");
        edge(3, "the argument is not closed", begin, "lay 0 0 -> 2", around(0, 2, 6), "lay 0 1 -> 7", around(0, 7, 11),
            "extend 2 0 0 -> IAE", "extend 2 0 2 -> IAE", "extend 2 0 6 -> IAE", "extend 3 0 0 -> IAE",
            "extend 3 0 6 -> IAE", "extend 3 0 11 -> 2", "extend 2 0 1 -> 2");
        for (String variance : new String[] {"+", "-", "="}) {
            edge(3, "a closed argument for any parameter of the parent", "addClass t " + variance + " false -> 0", """
                addClass c 0 false -> 1
                addClass c + false -> 2
                addClass c - false -> 3
                addClass c = false -> 4
                lay 1 -1 -> 0
                extend 1 0 0 -> 2
                extend 2 0 0 -> 2
                extend 3 0 0 -> 2
                extend 4 0 0 -> 2
                """);
        }
    }

    private static void extendState() {
        String four = classes('t', 0, 4) + classes('c', 4, 7);
        edge(3, "the class has 3 parents", four, "extend 6 0 -1 -> 2", "extend 6 1 -1 -> 3", "extend 6 2 -1 -> 4",
            "extend 6 3 -1 -> ISE", "extend 6 4 -1 -> ISE", "extend 6 0 -1 -> ISE", "lineSize 6 -> 4",
            "extend 5 3 -1 -> 2");
        edge(3, "a refused parent is none of the 3", four, "addClass t + false -> 7", "addClass c = false -> 8",
            "addClass t = false -> 9", "addClass c + false -> 10", "extend 10 0 -1 -> 2", "extend 10 0 -1 -> ISE",
            "extend 10 9 -2 -> UOE", "extend 10 1 -1 -> 3", "extend 10 9 -2 -> UOE", "extend 10 7 -2 -> 4",
            "extend 10 8 -2 -> ISE");
        edge(3, "or this one", four, "extend 4 0 -1 -> 2", "extend 4 0 -1 -> ISE", "extend 4 1 -1 -> 3",
            "extend 4 0 -1 -> ISE", "extend 4 1 -1 -> ISE", "extend 4 2 -1 -> 4");
        edge(3, "this one is one of its parents, not of its line", four, "extend 1 0 -1 -> 2", "extend 4 1 -1 -> 3",
            "extend 4 0 -1 -> 3", "extend 4 0 -1 -> ISE", "lineSize 4 -> 3", "lineAt 4 1 -> 1", "lineAt 4 2 -> 0");
        edge(3, "or is a parent itself", four, "extend 4 0 -1 -> 2", "extend 5 4 -1 -> 3", "extend 4 1 -1 -> ISE",
            "extend 0 0 -1 -> IAE", "extend 1 0 -1 -> 2", "extend 5 1 -1 -> 4", "extend 1 0 -1 -> ISE",
            "extend 3 2 -1 -> 2", "extend 3 0 -1 -> 3", "lineSize 5 -> 4");
        edge(3, "a parent that was refused is none itself", four, "addClass t + false -> 7", "addClass c - false -> 8",
            "extend 8 7 -2 -> UOE", "extend 8 7 -1 -> IAE", "extend 7 0 -1 -> 2", "extend 6 5 0 -> NSEE",
            "extend 5 4 -1 -> 2", "extend 6 5 -1 -> 3", "extend 5 0 -1 -> ISE");
        edge(3, "returns the size of the line, to 16", chain(16), "extend 15 0 -1 -> 16", "extend 15 13 -1 -> 16",
            "extend 15 1 -1 -> ISE", "lineSize 15 -> 16");
    }

    private static void extendBases() {
        String begin = """
            addClass t = false -> 0
            addClass t = false -> 1
            addClass c 0 false -> 2
            addClass c = false -> 3
            lay 2 -1 -> 0
            lay 2 -1 -> 1
            lay 0 0 -> 2
            lay 0 1 -> 3
            """ + around(0, 2, 2);
        edge(3, "two unlike bases by another argument", begin, "extend 1 0 -2 -> 2", "extend 3 0 2 -> 2",
            "extend 3 1 0 -> UOE", "extend 3 1 -2 -> UOE", "extend 3 1 3 -> 3");
        edge(3, "unlike to the parameter", begin, "extend 1 0 0 -> 2", "extend 3 0 -2 -> 2", "extend 3 1 -2 -> UOE",
            "extend 3 1 0 -> UOE", "lineSize 3 -> 2");
        edge(3, "alike by nodes of the same type", begin, "extend 1 0 0 -> 2", "extend 3 0 1 -> 2", "extend 3 1 -2 -> 3");
        edge(3, "alike by the parameter", begin, "extend 1 0 -2 -> 2", "extend 3 0 -2 -> 2", "extend 3 1 0 -> UOE",
            "extend 3 1 -2 -> 3");
        edge(3, "unlike in the innermost part alone", """
            addClass t = false -> 0
            addClass t = false -> 1
            addClass c 0 false -> 2
            addClass c 0 false -> 3
            addClass c 0 false -> 4
            lay 2 -1 -> 0
            """, around(0, 0, 5), "lay 3 -1 -> 6", around(0, 6, 11), "extend 1 0 -2 -> 2", "extend 4 0 5 -> 2",
            "extend 4 1 11 -> UOE", "extend 4 1 4 -> UOE", "extend 4 1 5 -> 3");
        edge(3, "unlike far along the line", """
            addClass t = false -> 0
            addClass t 0 false -> 1
            addClass t 0 false -> 2
            addClass t 0 false -> 3
            addClass c 0 false -> 4
            lay 3 -1 -> 0
            lay 4 -1 -> 1
            extend 1 0 0 -> 2
            extend 2 0 1 -> 2
            extend 3 2 -1 -> 3
            extend 4 1 -1 -> 3
            extend 4 3 -1 -> UOE
            extend 4 2 -1 -> UOE
            extend 4 0 1 -> UOE
            extend 4 0 0 -> 3
            lineSize 4 -> 3
            """);
        edge(3, "-2 and the parameters", """
            addClass t + false -> 0
            addClass t - false -> 1
            addClass t = false -> 2
            addClass c + false -> 3
            addClass c - false -> 4
            addClass c = false -> 5
            extend 3 1 -2 -> UOE
            extend 3 2 -2 -> UOE
            extend 3 0 -2 -> 2
            extend 4 0 -2 -> UOE
            extend 4 2 -2 -> UOE
            extend 4 1 -2 -> 2
            extend 5 0 -2 -> 2
            extend 5 1 -2 -> 3
            extend 5 2 -2 -> 4
            """);
    }

    private static void extendOrder() {
        String begin = """
            addClass t + false -> 0
            addClass t 0 false -> 1
            addClass t + false -> 2
            addClass c - false -> 3
            addClass c 0 false -> 4
            variable -> 0
            lay 1 -1 -> 1
            lay 4 -1 -> 2
            extend 2 0 1 -> 2
            """;
        String full = begin + "extend 4 1 -1 -> 2\nextend 4 0 1 -> 3\nextend 4 2 1 -> 4\n";
        edge(3, "no such class comes before no such node", begin, "extend 5 0 99 -> IOOBE", "extend 4 5 99 -> IOOBE",
            "extend -1 -1 -3 -> IOOBE");
        edge(3, "no such class comes before a wrong argument or parent", begin, "extend -1 0 -1 -> IOOBE",
            "extend 5 1 -2 -> IOOBE", "extend 4 5 -2 -> IOOBE", "extend 4 5 0 -> IOOBE");
        edge(3, "no such class comes before the state", full, "extend 4 5 -1 -> IOOBE", "extend 1 -1 -1 -> IOOBE");
        edge(3, "no such node comes before a wrong parent or argument", begin, "extend 2 4 3 -> NSEE",
            "extend 4 1 3 -> NSEE", "extend 4 4 -3 -> NSEE");
        edge(3, "no such node comes before the state", full, "extend 4 3 3 -> NSEE", "extend 4 0 3 -> NSEE",
            "extend 2 0 3 -> NSEE");
        edge(3, "no such node comes before unlike bases", begin, "extend 4 0 2 -> 2", "extend 4 2 1 -> UOE",
            "extend 4 2 3 -> NSEE");
        edge(3, "a wrong parent or argument comes before the state", full, "extend 4 3 -1 -> IAE", "extend 4 0 0 -> IAE",
            "extend 4 3 -2 -> IAE", "extend 4 1 1 -> IAE", "extend 1 4 -1 -> IAE", "extend 2 2 1 -> IAE",
            "extend 4 3 1 -> ISE");
        edge(3, "a wrong parent or argument comes before the bases and the variance", begin, "extend 3 1 -2 -> IAE",
            "extend 3 0 -2 -> UOE", "extend 4 0 2 -> 2", "extend 4 2 -1 -> IAE", "extend 4 2 0 -> IAE",
            "extend 4 2 -2 -> IAE", "extend 4 2 2 -> UOE");
        edge(3, "the state comes before the bases", begin, "extend 4 0 1 -> 2", "extend 4 0 2 -> ISE",
            "extend 4 1 -1 -> 3", "extend 4 2 1 -> 4", "extend 4 0 2 -> ISE", "extend 2 0 2 -> ISE");
        edge(3, "the state comes before the variance", begin, "extend 3 0 1 -> 2", "extend 3 0 -2 -> ISE",
            "addClass c 0 false -> 5", "extend 5 3 1 -> 3", "extend 3 2 -2 -> ISE");
    }

    // Promises 4 and 5

    private static void lines() {
        edge(4, "no such class", classes('t', 0, 2), refused("IOOBE", "lineSize ?", "-1", "2", "-2"),
            far("IOOBE", "lineSize ?"), "lineSize 0 -> 1", "lineSize 1 -> 1");
        edge(4, "from 1 to 16", chain(16), "lineSize 0 -> 1", "lineSize 1 -> 2", "lineSize 15 -> 16",
            "lineSize 16 -> IOOBE");
        edge(5, "no such class", classes('t', 0, 2), refused("IOOBE", "lineAt ? 0", "-1", "2", "-2"),
            far("IOOBE", "lineAt ? 0"), "lineAt 0 0 -> 0", "lineAt 1 0 -> 1");
        edge(5, "no such place in a line of one", classes('t', 0, 3), refused("NSEE", "lineAt 1 ?", "-1", "1", "2"),
            far("NSEE", "lineAt 1 ?"), "lineAt 1 0 -> 1");
        edge(5, "no such place in a line of 16", chain(16), "lineAt 15 -1 -> NSEE", "lineAt 15 0 -> 15",
            "lineAt 15 15 -> 0", "lineAt 15 16 -> NSEE", "lineAt 14 14 -> 0", "lineAt 14 15 -> NSEE",
            far("NSEE", "lineAt 15 ?"));
        edge(5, "no such class comes before no such place", classes('t', 0, 1), "lineAt 1 1 -> IOOBE",
            "lineAt -1 -1 -> IOOBE", "lineAt 0 1 -> NSEE");
        edge(5, "the row begins as the line of the first parent", """
            addClass t 0 false -> 0
            addClass t 0 false -> 1
            addClass t 0 false -> 2
            addClass c 0 false -> 3
            extend 2 0 -1 -> 2
            extend 3 2 -1 -> 3
            lineAt 3 0 -> 3
            lineAt 3 1 -> 2
            lineAt 3 2 -> 0
            # another parent is put ahead, whatever its number
            extend 3 1 -1 -> 4
            lineAt 3 0 -> 3
            lineAt 3 1 -> 1
            lineAt 3 2 -> 2
            lineAt 3 3 -> 0
            """);
        edge(5, "those that are in the row already stay, and the others keep their order", """
            addClass t 0 false -> 0
            addClass t 0 false -> 1
            addClass t 0 false -> 2
            addClass t 0 false -> 3
            addClass t 0 false -> 4
            addClass c 0 false -> 5
            extend 2 0 -1 -> 2
            # the line of 4 is 4 2 3 1 0 as soon as it has 3 and 2
            extend 3 0 -1 -> 2
            extend 3 1 -1 -> 3
            extend 4 3 -1 -> 4
            extend 4 2 -1 -> 5
            lineAt 4 0 -> 4
            lineAt 4 1 -> 2
            lineAt 4 2 -> 3
            lineAt 4 3 -> 1
            lineAt 4 4 -> 0
            # 1 is in the row of 5; 4 2 3 0 go ahead of it
            extend 5 1 -1 -> 2
            extend 5 4 -1 -> 6
            lineAt 5 0 -> 5
            lineAt 5 1 -> 4
            lineAt 5 2 -> 2
            lineAt 5 3 -> 3
            lineAt 5 4 -> 0
            lineAt 5 5 -> 1
            """);
        edge(5, "a parent all of whose line is in the row", """
            addClass t 0 false -> 0
            addClass t 0 false -> 1
            addClass c 0 false -> 2
            extend 1 0 -1 -> 2
            extend 2 1 -1 -> 3
            extend 2 0 -1 -> 3
            lineAt 2 0 -> 2
            lineAt 2 1 -> 1
            lineAt 2 2 -> 0
            lineAt 2 3 -> NSEE
            """);
    }

    // Promises 6, 7 and 8

    private static void variable() {
        edge(6, "there are 120 nodes", variables(0, 119), "number 119 -> NSEE", "variable -> 119", "variable -> ISE",
            "variable -> ISE", "number 119 -> 1", "number 120 -> NSEE");
        edge(6, "nodes that are laid count", classes('c', 0, 1), variables(0, 118), "lay 0 -1 -> 118",
            "variable -> 119", "variable -> ISE", "number 118 -> 2");
        edge(6, "it may be laid again, and is the same type", "variable -> 0", "variable -> 1", "number 0 -> 1",
            "number 1 -> 1");
    }

    private static void lay() {
        String begin = "addClass t + false -> 0\naddClass c 0 false -> 1\n";
        edge(7, "no such class", begin, "variable -> 0", refused("IOOBE", "lay ? -1", "-1", "2", "-2"),
            far("IOOBE", "lay ? 0"), "lay 0 0 -> 1", "lay 1 -1 -> 2");
        edge(7, "no such node, but for -1", begin, "lay 0 0 -> NSEE", "variable -> 0", "variable -> 1",
            refused("NSEE", "lay 0 ?", "2", "-2", "-3"), far("NSEE", "lay 0 ?"), "lay 0 0 -> 2", "lay 0 1 -> 3",
            "lay 0 3 -> 4", "lay 0 5 -> NSEE");
        edge(7, "the class has a parameter and there is no argument", begin, "addClass t - false -> 2",
            "addClass t = false -> 3", "lay 0 -1 -> IAE", "lay 2 -1 -> IAE", "lay 3 -1 -> IAE", "lay 1 -1 -> 0");
        edge(7, "or the other way round", begin, "variable -> 0", "lay 1 0 -> IAE", "lay 1 -1 -> 1", "lay 1 1 -> IAE",
            "lay 0 1 -> 2");
        edge(7, "there are 120 nodes", begin, variables(0, 119), "lay 0 118 -> 119", "lay 0 0 -> ISE", "lay 1 -1 -> ISE",
            "lay 0 119 -> ISE", "number 119 -> 63", "number 120 -> NSEE");
        edge(7, "the depth of 6 is fine, of 7 is not", begin, "lay 1 -1 -> 0", around(0, 0, 5), "lay 0 5 -> ISE",
            "lay 0 4 -> 6", "lay 0 6 -> ISE", "number 6 -> 313");
        edge(7, "so it is around the variable", begin, "variable -> 0", around(0, 0, 5), "lay 0 5 -> ISE",
            "lay 0 4 -> 6", "number 5 -> 311", "number 7 -> NSEE");
        edge(7, "by other classes as well", begin, "addClass t - false -> 2", "addClass t = false -> 3", "lay 1 -1 -> 0",
            "lay 2 0 -> 1", "lay 3 1 -> 2", "lay 0 2 -> 3", "lay 2 3 -> 4", "lay 3 4 -> 5", "lay 0 5 -> ISE",
            "lay 2 5 -> ISE", "lay 3 5 -> ISE");
    }

    private static void layOrder() {
        String begin = "addClass t + false -> 0\naddClass c 0 false -> 1\n";
        edge(7, "no such class comes before no such node", begin, "lay 2 0 -> IOOBE", "lay -1 -2 -> IOOBE");
        edge(7, "no such class comes before there being 120", begin, variables(0, 120), "lay 2 -1 -> IOOBE",
            "lay 2 0 -> IOOBE", "lay -1 120 -> IOOBE");
        edge(7, "no such node comes before an argument too many", begin, "variable -> 0", "lay 1 1 -> NSEE",
            "lay 1 -2 -> NSEE", "lay 1 0 -> IAE");
        edge(7, "no such node comes before there being 120", begin, variables(0, 120), "lay 0 120 -> NSEE",
            "lay 1 -2 -> NSEE");
        edge(7, "a wrong argument comes before there being 120", begin, variables(0, 120), "lay 0 -1 -> IAE",
            "lay 1 0 -> IAE");
        edge(7, "an argument too many comes before the depth", begin, "variable -> 0", around(0, 0, 5), "lay 1 5 -> IAE",
            "lay 0 5 -> ISE");
    }

    private static void number() {
        edge(8, "no such node", "number 0 -> NSEE", "variable -> 0", refused("NSEE", "number ?", "-1", "1", "-2"),
            far("NSEE", "number ?"), "number 0 -> 1");
        edge(8, "from the variable to the last class", classes('c', 0, 15), "addClass t = false -> 15", "variable -> 0",
            "lay 0 -1 -> 1", "lay 14 -1 -> 2", "number 0 -> 1", "number 1 -> 2", "number 2 -> 16", "lay 15 0 -> 3",
            "lay 15 2 -> 4", "number 3 -> 528", "number 4 -> 543", around(15, 4, 8), "number 8 -> 2651");
        edge(8, "of the last of 120 nodes", variables(0, 119), classes('c', 0, 1), "lay 0 -1 -> 119", "number 119 -> 2",
            "number 120 -> NSEE");
    }

    // Promises 9 and 10

    private static void base() {
        String begin = """
            addClass t = false -> 0
            addClass t = false -> 1
            addClass c 0 false -> 2
            addClass c 0 false -> 3
            variable -> 0
            lay 2 -1 -> 1
            lay 1 1 -> 2
            lay 0 0 -> 3
            extend 1 0 -2 -> 2
            """;
        edge(9, "no such node", begin, refused("NSEE", "base ? 0", "-1", "4", "-2"), far("NSEE", "base ? 0"),
            "base 2 0 -> 66");
        edge(9, "no such class", begin, refused("IOOBE", "base 2 ?", "-1", "4", "-2"), far("IOOBE", "base 2 ?"),
            "base 2 1 -> 97");
        edge(9, "the type is not closed", begin, "lay 0 3 -> 4", around(0, 4, 7), "base 0 0 -> IAE", "base 3 0 -> IAE",
            "base 7 0 -> IAE", "base 1 2 -> 4");
        edge(9, "the class is not in the line of the class of the type", begin, "base 1 0 -> UOE", "base 1 3 -> UOE",
            "base 2 2 -> UOE", "base 1 2 -> 4", "base 2 0 -> 66", "lay 0 1 -> 4", "base 4 1 -> UOE", "base 4 0 -> 66");
        edge(9, "no such node comes before no such class", begin, "base 4 4 -> NSEE", "base -1 -1 -> NSEE");
        edge(9, "no such class comes before a type that is not closed", begin, "base 0 4 -> IOOBE", "base 3 -1 -> IOOBE");
        edge(9, "no such class comes before the line", begin, "base 1 4 -> IOOBE");
        edge(9, "a type that is not closed comes before the line", begin, "base 0 2 -> IAE", "base 3 2 -> IAE",
            "base 3 1 -> IAE");
        edge(9, "the type itself at its own class", begin, "base 1 2 -> 4", "base 2 1 -> 97", "number 2 -> 97");
        edge(9, "a base may be deeper than 6", """
            addClass t = false -> 0
            addClass c 0 false -> 1
            addClass c 0 false -> 2
            lay 1 -1 -> 0
            """, around(0, 0, 5), "extend 2 0 5 -> 2", "lay 2 -1 -> 6", "number 5 -> 313", "base 6 0 -> 375",
            "base 6 2 -> 4", "isBelow 6 5 -> false", "isSound -> true");
        edge(9, "the argument goes all along the line, or stops at a closed one", """
            addClass t = false -> 0
            addClass t = false -> 1
            addClass t = false -> 2
            addClass t = false -> 3
            addClass c 0 false -> 4
            lay 4 -1 -> 0
            extend 1 0 -2 -> 2
            extend 2 1 -2 -> 3
            lay 2 0 -> 1
            base 1 0 -> 68
            extend 3 2 1 -> 4
            lay 3 1 -> 2
            # 3[X] is 2[2[4]], so 1[2[4]] and 0[2[4]], whatever X is
            number 1 -> 130
            base 2 3 -> 285
            base 2 2 -> 254
            base 2 1 -> 223
            base 2 0 -> 192
            """);
        edge(9, "a parent that is added counts at once", begin, "lay 3 -1 -> 4", "base 4 0 -> UOE", "extend 3 1 1 -> 3",
            "base 4 0 -> 66", "base 4 1 -> 97");
    }

    private static void isBelow() {
        String begin = """
            addClass t 0 false -> 0
            addClass t 0 false -> 1
            addClass c + false -> 2
            addClass c - false -> 3
            addClass c = false -> 4
            extend 1 0 -1 -> 2
            variable -> 0
            lay 0 -1 -> 1
            lay 1 -1 -> 2
            lay 2 0 -> 3
            """;
        edge(10, "no such node, for either", begin, refused("NSEE", "isBelow ? 1", "-1", "4", "-2"),
            far("NSEE", "isBelow ? 1"), refused("NSEE", "isBelow 1 ?", "-1", "4", "-2"), far("NSEE", "isBelow 1 ?"),
            "compared -> 0", "isBelow 1 1 -> true");
        edge(10, "one of both is not closed", begin, refused("IAE", "isBelow ?", "0 1", "1 0", "0 0", "3 1", "1 3",
            "3 3", "0 3", "3 0"), "compared -> 0", "isBelow 2 1 -> true", "compared -> 1");
        edge(10, "no such node comes before one that is not closed", begin, "isBelow 0 4 -> NSEE", "isBelow 4 0 -> NSEE",
            "isBelow 3 -1 -> NSEE", "isBelow -1 3 -> NSEE");
        edge(10, "by the class, along the line", begin, "lay 0 -1 -> 4", "isBelow 2 1 -> true", "isBelow 1 2 -> false",
            "isBelow 1 4 -> true", "isBelow 2 2 -> true");
        for (String variance : new String[] {"2 + true false", "3 - false true", "4 = false false"}) {
            String[] words = variance.split(" ");
            edge(10, "for '" + words[1] + "'", begin, "lay " + words[0] + " 1 -> 4", "lay " + words[0] + " 2 -> 5",
                "lay 1 -1 -> 6", "lay " + words[0] + " 6 -> 7", "isBelow 5 4 -> " + words[2],
                "isBelow 4 5 -> " + words[3], "isBelow 5 7 -> true", "isBelow 7 5 -> true", "isBelow 4 4 -> true",
                "isBelow 4 1 -> false", "isBelow 1 4 -> false");
        }
        edge(10, "at the depth of 6, unlike in the innermost part", begin, "lay 2 1 -> 4", around(2, 4, 8),
            "lay 2 2 -> 9", around(2, 9, 13), "lay 4 1 -> 14", around(4, 14, 17), "lay 4 2 -> 18", around(4, 18, 21),
            "isBelow 12 7 -> true", "isBelow 7 12 -> false", "isBelow 17 17 -> true", "isBelow 21 17 -> false",
            "lay 4 2 -> 22", around(4, 22, 25), "isBelow 21 25 -> true", "isBelow 20 25 -> false");
        edge(10, "'-' in '-' turns twice, thrice once", begin, "lay 3 1 -> 4", "lay 3 2 -> 5", "lay 3 4 -> 6",
            "lay 3 5 -> 7", "lay 3 6 -> 8", "lay 3 7 -> 9", "isBelow 4 5 -> true", "isBelow 5 4 -> false",
            "isBelow 7 6 -> true", "isBelow 6 7 -> false", "isBelow 8 9 -> true", "isBelow 9 8 -> false");
        edge(10, "the parameter of the other one's class counts", """
            addClass t = false -> 0
            addClass t + false -> 1
            addClass c 0 false -> 2
            addClass c 0 false -> 3
            addClass c = false -> 4
            extend 3 2 -1 -> 2
            extend 4 1 -2 -> 2
            lay 2 -1 -> 0
            lay 3 -1 -> 1
            lay 4 0 -> 2
            lay 4 1 -> 3
            lay 1 0 -> 4
            lay 1 1 -> 5
            isBelow 3 2 -> false
            isBelow 3 4 -> true
            isBelow 2 5 -> false
            isBelow 2 4 -> true
            isBelow 4 2 -> false
            """);
    }

    private static void isBelowAgain() {
        edge(10, "what is asked again is taken to be so", """
            addClass t - false -> 0
            addClass c 0 false -> 1
            addClass c 0 false -> 2
            lay 1 -1 -> 0
            lay 0 0 -> 1
            lay 0 1 -> 2
            lay 2 -1 -> 3
            isBelow 0 1 -> false
            extend 1 0 2 -> 2
            # 1 is 0[0[0[1]]]; it is below 0[1] if 1 is below 0[0[1]], if 0[1] is below 0[0[1]], if 0[1] is below 1
            isBelow 0 1 -> false
            isBelow 0 2 -> false
            isBelow 1 0 -> false
            compared -> 4
            """);
        edge(10, "asked again at once", """
            addClass t - false -> 0
            addClass c 0 false -> 1
            lay 1 -1 -> 0
            lay 0 0 -> 1
            extend 1 0 1 -> 2
            # 1 is 0[0[1]]: it is below 0[1] if 1 is below 0[1]
            isBelow 0 1 -> true
            isBelow 1 0 -> false
            isBelow 0 0 -> true
            """);
        edge(10, "asked anew, nothing is taken from an earlier call", """
            addClass t - false -> 0
            addClass c 0 false -> 1
            addClass c 0 false -> 2
            lay 1 -1 -> 0
            lay 0 0 -> 1
            extend 1 0 1 -> 2
            lay 2 -1 -> 2
            lay 0 2 -> 3
            isBelow 2 1 -> false
            isBelow 0 1 -> true
            isBelow 2 1 -> false
            isBelow 0 3 -> false
            extend 2 1 -1 -> 3
            isBelow 2 1 -> true
            isBelow 0 3 -> true
            """);
    }

    // Promises 11, 12 and 13

    private static void define() {
        String begin = classes('c', 0, 2);
        edge(11, "no such class", begin, refused("IOOBE", "define ? 0 v 0 0", "-1", "2", "-2"),
            far("IOOBE", "define ? 0 v 0 0"), "define 0 0 v 0 0 -> 1", "define 1 0 v 0 0 -> 1");
        edge(11, "no such method", begin, refused("IAE", "define 0 ? v 0 0", "-1", "8", "-8", "9"),
            far("IAE", "define 0 ? v 0 0"), "define 0 0 v 0 0 -> 1", "define 0 7 v 0 0 -> 2");
        edge(11, "no such kind", begin,
            refused("IAE", "define 0 0 ? 0 0", "b", "u", "w", "r", "t", "n", "p", "96", "A", "V", "S", "O", "0", "000",
                "65535", "353"),
            "define 0 0 a 0 0 -> 1", "define 0 1 v 0 0 -> 2", "define 0 2 s 0 0 -> 3", "define 0 3 o 0 0 -> 4");
        for (String kind : new String[] {"v", "s", "o"}) {
            String call = "define 0 0 " + kind + " ? 0";
            edge(11, "a number that has a meaning is out of range for " + kind, begin,
                refused("IAE", call, "-1", "100", "-99"), far("IAE", call), "define 0 0 " + kind + " 0 0 -> 1",
                "define 0 0 " + kind + " 99 0 -> 1", "definer 0 0 -> 0");
        }
        edge(11, "a number has no meaning for 'a'", begin, "define 0 0 a -1 0 -> 1", "define 0 1 a 100 0 -> 2",
            "define 0 2 a 2147483647 0 -> 3", "define 0 3 a -2147483648 0 -> 4", "definer 0 0 -> NSEE");
        edge(11, "another method that has a meaning is out of range", begin,
            refused("IAE", "define 0 0 o 0 ?", "-1", "8", "-2"), far("IAE", "define 0 0 o 0 ?"),
            "define 0 0 o 0 0 -> 1", "define 0 0 o 0 7 -> 1", "define 0 7 v 3 0 -> 2", "call 0 0 -> 3");
        for (String kind : new String[] {"a", "v", "s"}) {
            String call = "define 0 0 " + kind + " 0 ";
            edge(11, "another method has no meaning for " + kind, begin, call + "-1 -> 1", call + "8 -> 1",
                call + "2147483647 -> 1", call + "-2147483648 -> 1");
        }
        edge(11, "no such class comes before no such method, kind, number and other method", begin,
            "define 2 8 v 0 0 -> IOOBE", "define 2 0 x 0 0 -> IOOBE", "define -1 0 v 100 0 -> IOOBE",
            "define 2 0 o 0 8 -> IOOBE", "define 2 8 x 100 8 -> IOOBE");
        edge(11, "returns how many, from 1 to 8, and counts none twice", begin, "define 0 3 a 0 0 -> 1",
            "define 0 3 v 0 0 -> 1", "define 0 0 v 0 0 -> 2", "define 0 1 a 0 0 -> 3", "define 0 2 v 0 0 -> 4",
            "define 0 4 v 0 0 -> 5", "define 0 5 v 0 0 -> 6", "define 0 6 v 0 0 -> 7", "define 0 7 v 0 0 -> 8",
            "define 0 0 a 0 0 -> 8", "define 0 8 v 0 0 -> IAE", "define 1 0 v 0 0 -> 1");
        edge(11, "in place of an earlier definition, which counts no more", begin, "define 0 0 v 1 0 -> 1",
            "call 0 0 -> 1", "define 0 0 v 2 0 -> 1", "call 0 0 -> 2", "define 0 1 o 9 0 -> 2", "call 0 1 -> 11",
            "define 0 1 v 4 0 -> 2", "call 0 1 -> 4", "define 0 0 a 0 0 -> 2", "isAdmitted 0 -> false",
            "define 0 0 v 0 0 -> 2", "call 0 0 -> 0");
        edge(11, "in a class that is a parent already", begin, "extend 1 0 -1 -> 2", "define 0 0 v 5 0 -> 1",
            "call 1 0 -> 5", "define 0 0 v 6 0 -> 1", "call 1 0 -> 6");
    }

    private static void defineField() {
        String begin = classes('c', 0, 2);
        edge(12, "no such class", begin, refused("IOOBE", "defineField ? 0 0 -1", "-1", "2", "-2"),
            far("IOOBE", "defineField ? 0 0 -1"), "defineField 0 0 0 -1 -> 1", "defineField 1 0 0 -1 -> 1");
        edge(12, "no such field", begin, refused("IAE", "defineField 0 ? 0 -1", "-1", "8", "-2"),
            far("IAE", "defineField 0 ? 0 -1"), "defineField 0 0 0 -1 -> 1", "defineField 0 7 0 -1 -> 2");
        edge(12, "no such field, for the other one", begin, refused("IAE", "defineField 0 0 0 ?", "-2", "8", "-3"),
            far("IAE", "defineField 0 0 0 ?"), "defineField 0 0 0 -1 -> 1", "defineField 0 1 5 0 -> 2",
            "defineField 0 0 0 7 -> 2", "fieldOf 0 1 -> 5");
        edge(12, "the number is out of range", begin, refused("IAE", "defineField 0 0 ? -1", "-1", "100", "-99"),
            far("IAE", "defineField 0 0 ? -1"), "defineField 0 0 0 -1 -> 1", "fieldOf 0 0 -> 0",
            "defineField 0 0 99 -1 -> 1", "fieldOf 0 0 -> 99");
        edge(12, "no such class comes before no such field and a wrong number", begin, "defineField 2 8 0 -1 -> IOOBE",
            "defineField 2 0 100 -1 -> IOOBE", "defineField -1 0 0 8 -> IOOBE", "defineField 2 -1 -1 -2 -> IOOBE");
        edge(12, "returns how many, from 1 to 8, and counts none twice", begin, "defineField 0 7 0 -1 -> 1",
            "defineField 0 7 1 7 -> 1", "defineField 0 0 0 -1 -> 2", "defineField 0 1 0 -1 -> 3",
            "defineField 0 2 0 -1 -> 4", "defineField 0 3 0 -1 -> 5", "defineField 0 4 0 -1 -> 6",
            "defineField 0 5 0 -1 -> 7", "defineField 0 6 0 -1 -> 8", "defineField 0 6 2 -1 -> 8",
            "defineField 1 6 2 -1 -> 1", "define 0 0 v 0 0 -> 1");
        edge(12, "in place of an earlier definition, with and without another field", begin, "defineField 0 0 7 -1 -> 1",
            "defineField 0 1 1 0 -> 2", "fieldOf 0 1 -> 8", "defineField 0 1 2 -1 -> 2", "fieldOf 0 1 -> 2",
            "defineField 0 1 3 0 -> 2", "fieldOf 0 1 -> 10");
    }

    private static void isAdmitted() {
        String begin = classes('t', 0, 2) + classes('c', 2, 3) + "extend 2 0 -1 -> 2\nextend 2 1 -1 -> 3\n";
        edge(13, "no such class", begin, refused("IOOBE", "isAdmitted ?", "-1", "3", "-2"), far("IOOBE", "isAdmitted ?"),
            "isAdmitted 2 -> true", "isAdmitted 0 -> false");
        edge(13, "it is a class, and no trait", "addClass t 0 false -> 0", "addClass c 0 false -> 1",
            "addClass t = true -> 2", "addClass c = true -> 3", "define 0 0 v 0 0 -> 1", "define 1 0 v 0 0 -> 1",
            "isAdmitted 0 -> false", "isAdmitted 1 -> true", "isAdmitted 2 -> false", "isAdmitted 3 -> true");
        edge(13, "each method that is defined has a definition that is not abstract", begin, "define 0 7 a 0 0 -> 1",
            "isAdmitted 2 -> false", "define 1 7 v 0 0 -> 1", "isAdmitted 2 -> true", "define 2 7 a 0 0 -> 1",
            "isAdmitted 2 -> true", "define 1 7 a 0 0 -> 1", "isAdmitted 2 -> false", "define 0 7 v 0 0 -> 1",
            "isAdmitted 2 -> true");
        edge(13, "'s' finds a next one behind it, not ahead of it nor itself", begin, "define 2 0 s 0 0 -> 1",
            "isAdmitted 2 -> false", "define 0 0 a 0 0 -> 1", "isAdmitted 2 -> false", "define 0 0 v 0 0 -> 1",
            "isAdmitted 2 -> true", "define 0 0 s 0 0 -> 1", "isAdmitted 2 -> false", "define 1 0 v 0 0 -> 1",
            "isAdmitted 2 -> false", "define 2 0 v 0 0 -> 1", "isAdmitted 2 -> false");
        edge(13, "'s' behind which the last one is 's' as well", begin, "define 2 0 s 0 0 -> 1", "define 1 0 s 0 0 -> 1",
            "isAdmitted 2 -> false", "define 0 0 o 0 1 -> 1", "isAdmitted 2 -> false", "define 2 1 v 0 0 -> 2",
            "isAdmitted 2 -> true");
        edge(13, "'o' finds the other method anywhere in the line", begin, "define 1 0 o 0 7 -> 1",
            "isAdmitted 2 -> false", "define 0 7 a 0 0 -> 1", "isAdmitted 2 -> false", "define 0 7 v 0 0 -> 1",
            "isAdmitted 2 -> true", "define 0 7 a 0 0 -> 1", "define 2 7 v 0 0 -> 1", "isAdmitted 2 -> true",
            "define 2 7 a 0 0 -> 1", "define 1 7 v 0 0 -> 2", "isAdmitted 2 -> true");
        edge(13, "'o' of its own method finds itself", begin, "define 2 0 o 0 0 -> 1", "isAdmitted 2 -> true");
        edge(13, "a definition ahead of it does not help one that finds nothing", begin, "define 0 0 o 0 5 -> 1",
            "define 2 0 v 0 0 -> 1", "isAdmitted 2 -> false", "define 2 5 v 0 0 -> 2", "isAdmitted 2 -> true",
            "define 0 3 s 0 0 -> 2", "define 2 3 v 0 0 -> 3", "isAdmitted 2 -> false");
        edge(13, "what other classes define does not count", begin, classes('c', 3, 4), "define 2 0 v 0 0 -> 1",
            "define 3 1 a 0 0 -> 1", "isAdmitted 2 -> true", "isAdmitted 3 -> false");
    }

    // Promises 14 and 15

    private static void calls() {
        String begin = classes('t', 0, 1) + classes('c', 1, 2) + "define 1 0 v 4 0 -> 1\ndefine 1 7 v 5 0 -> 2\n";
        String[] names = {"call", "callAnew"};
        for (int at = 0; at < 2; at++) {
            int promise = 14 + at;
            String call = names[at];
            edge(promise, "no such class", begin, refused("IOOBE", call + " ? 0", "-1", "2", "-2"),
                far("IOOBE", call + " ? 0"), call + " 1 0 -> 4");
            edge(promise, "no such method", begin, refused("IAE", call + " 1 ?", "-1", "8", "-2"),
                far("IAE", call + " 1 ?"), call + " 1 0 -> 4", call + " 1 7 -> 5");
            edge(promise, "the class is not admitted", begin, classes('c', 2, 3), "define 0 0 v 1 0 -> 1",
                call + " 0 0 -> ISE", "define 1 1 a 0 0 -> 3", call + " 1 0 -> ISE", call + " 1 1 -> ISE",
                "define 1 1 v 2 0 -> 3", call + " 1 0 -> 4", call + " 1 1 -> 2", "define 1 2 s 0 0 -> 4",
                call + " 1 0 -> ISE", "define 1 2 o 0 5 -> 4", call + " 1 0 -> ISE", "define 1 2 o 0 7 -> 4",
                call + " 1 2 -> 5");
            edge(promise, "the method is not defined in its line", begin, refused("NSEE", call + " 1 ?", "1", "6"),
                "extend 1 0 -1 -> 2", call + " 1 1 -> NSEE", "define 0 1 v 8 0 -> 1", call + " 1 1 -> 8",
                classes('c', 2, 3), "define 2 2 v 1 0 -> 1", call + " 1 2 -> NSEE", call + " 2 0 -> NSEE");
            edge(promise, "the first that is not abstract counts, and the next one behind it",
                classes('c', 0, 4), "extend 1 0 -1 -> 2", "extend 2 1 -1 -> 3", "extend 3 2 -1 -> 4",
                "define 0 0 v 1 0 -> 1", "define 1 0 a 0 0 -> 1", "define 2 0 s 10 0 -> 1", "define 3 0 a 0 0 -> 1",
                call + " 3 0 -> 11", call + " 2 0 -> 11", call + " 1 0 -> 1", call + " 0 0 -> 1",
                "define 1 0 s 5 0 -> 1", call + " 3 0 -> 16", call + " 1 0 -> 6");
            edge(promise, "the next one along the line is not always one of the parents", classes('t', 0, 3),
                classes('c', 3, 4), "extend 1 0 -1 -> 2", "extend 2 0 -1 -> 2", "extend 3 1 -1 -> 3",
                "extend 3 2 -1 -> 4", "define 0 0 v 1 0 -> 1", "define 1 0 s 10 0 -> 1", "define 2 0 s 20 0 -> 1",
                call + " 3 0 -> 31");
            edge(promise, "classes that are no parents are not in the line", classes('c', 0, 3), "extend 2 1 -1 -> 2",
                "define 0 0 v 99 0 -> 1", "define 1 0 v 1 0 -> 1", call + " 2 0 -> 1", "define 2 0 s 5 0 -> 1",
                call + " 2 0 -> 6", "isSound -> true");
            edge(promise, "along the line of three parents", classes('t', 0, 5), classes('c', 5, 6),
                "extend 2 0 -1 -> 2", "extend 3 0 -1 -> 2", "extend 3 1 -1 -> 3", "extend 4 0 -1 -> 2",
                "extend 5 2 -1 -> 3", "extend 5 3 -1 -> 5", "extend 5 4 -1 -> 6",
                // the row of 5 is 2 0, then 3 1 2 0, then 4 3 1 2 0
                "lineAt 5 1 -> 4", "lineAt 5 2 -> 3", "lineAt 5 3 -> 1", "lineAt 5 4 -> 2", "lineAt 5 5 -> 0",
                "define 0 0 v 1 0 -> 1", "define 2 0 s 2 0 -> 1", "define 1 0 v 4 0 -> 1", "define 3 0 s 8 0 -> 1",
                "define 4 0 s 16 0 -> 1", "define 5 0 s 32 0 -> 1", call + " 5 0 -> 60", "define 1 0 s 4 0 -> 1",
                call + " 5 0 -> 63", "define 4 0 v 16 0 -> 1", call + " 5 0 -> 48", "isSound -> true");
            edge(promise, "'o' asks the whole line of the class that is called", classes('c', 0, 3),
                "extend 1 0 -1 -> 2", "extend 2 1 -1 -> 3", "define 0 0 o 1 1 -> 1", "define 0 1 v 10 0 -> 2",
                "define 2 1 s 50 0 -> 1", call + " 2 0 -> 61", call + " 1 0 -> 11", call + " 0 0 -> 11");
            edge(promise, "what a refused definition would give does not count", begin, "define 1 0 v 100 0 -> IAE",
                call + " 1 0 -> 4", "define 1 0 o 1 8 -> IAE", call + " 1 0 -> 4", "define 1 0 x 9 0 -> IAE",
                call + " 1 0 -> 4");
        }
    }

    /** A chain of classes, each with 's' for the method 0, the first of which ends as told. */
    private static String nexts(int count, String end) {
        StringBuilder run = new StringBuilder(chain(count));
        run.append("define 0 0 " + end + " -> 1\n");
        for (int type = 1; type < count; type++) {
            run.append("define " + type + " 0 s 1 0 -> 1\n");
        }
        return run.toString();
    }

    /** The method 1 for the same chain, 's' but for the first one, which is 'v'. */
    private static String nextsBehind(int count) {
        StringBuilder run = new StringBuilder("define 0 1 v 99 0 -> 2\n");
        for (int type = 1; type < count; type++) {
            run.append("define " + type + " 1 s 1 0 -> 2\n");
        }
        return run.toString();
    }

    private static void callsGoneInto() {
        String[] names = {"call", "callAnew"};
        for (int at = 0; at < 2; at++) {
            String call = names[at];
            edge(14 + at, "30 definitions are fine, 31 are not", nexts(16, "o 2 1"), nextsBehind(14),
                call + " 15 0 -> 129", "isSound -> true", "define 14 1 s 1 0 -> 2", call + " 15 0 -> UOE",
                call + " 14 0 -> 129", "define 15 1 s 1 0 -> 2", call + " 15 0 -> UOE", call + " 14 0 -> 129",
                call + " 13 0 -> 127", call + " 15 1 -> 114", "isSound -> true");
            edge(14 + at, "the definition that ends counts as the 30th", nexts(15, "o 1 1"), nextsBehind(15),
                call + " 14 0 -> 128", "define 14 2 o 1 0 -> 3", call + " 14 2 -> UOE", "define 14 2 o 1 1 -> 3",
                call + " 14 2 -> 114");
            edge(14 + at, "abstract ones are not gone into", nexts(16, "o 2 1"), nextsBehind(16), call + " 15 0 -> UOE",
                "define 3 0 a 0 0 -> 2", call + " 15 0 -> UOE", "define 4 1 a 0 0 -> 2", call + " 15 0 -> 129");
            edge(14 + at, "no end by one method, by two, and by all", classes('c', 0, 1), "define 0 0 o 0 0 -> 1",
                call + " 0 0 -> UOE", "define 0 0 o 0 1 -> 1", "define 0 1 o 0 0 -> 2", call + " 0 0 -> UOE",
                call + " 0 1 -> UOE", "define 0 1 v 3 0 -> 2", call + " 0 0 -> 3", "define 0 2 o 1 3 -> 3",
                "define 0 3 o 1 4 -> 4", "define 0 4 o 1 5 -> 5", "define 0 5 o 1 6 -> 6", "define 0 6 o 1 7 -> 7",
                "define 0 7 o 1 0 -> 8", call + " 0 2 -> 9", "define 0 0 o 1 2 -> 8", call + " 0 2 -> UOE",
                call + " 0 1 -> 3", "isAdmitted 0 -> true", "isSound -> true");
            edge(14 + at, "no end by 's' and 'o' in turn", classes('c', 0, 2), "extend 1 0 -1 -> 2",
                "define 0 0 o 1 0 -> 1", "define 1 0 s 1 0 -> 1", call + " 1 0 -> UOE", call + " 0 0 -> UOE",
                "define 1 0 v 1 0 -> 1", call + " 1 0 -> 1");
        }
    }

    private static void callsOrder() {
        String begin = classes('t', 0, 1) + classes('c', 1, 3) + """
            define 0 0 o 0 0 -> 1
            define 1 0 o 0 0 -> 1
            define 2 1 v 0 0 -> 1
            """;
        String[] names = {"call", "callAnew"};
        for (int at = 0; at < 2; at++) {
            String call = names[at];
            edge(14 + at, "no such class comes before no such method", begin, call + " 3 8 -> IOOBE",
                call + " -1 -1 -> IOOBE");
            edge(14 + at, "no such method comes before a class that is not admitted", begin, call + " 0 8 -> IAE",
                call + " 0 -1 -> IAE");
            edge(14 + at, "a class that is not admitted comes before a method that is not defined", begin,
                call + " 0 1 -> ISE", call + " 2 0 -> NSEE", "define 2 2 a 0 0 -> 2", call + " 2 0 -> ISE");
            edge(14 + at, "a class that is not admitted comes before no end", begin, call + " 0 0 -> ISE",
                call + " 1 0 -> UOE", "define 1 1 a 0 0 -> 2", call + " 1 0 -> ISE");
        }
    }

    // Promises 16 and 17

    private static void definer() {
        String begin = classes('t', 0, 3) + "extend 1 0 -1 -> 2\nextend 2 1 -1 -> 3\n";
        edge(16, "no such class", begin, "define 0 0 v 0 0 -> 1", refused("IOOBE", "definer ? 0", "-1", "3", "-2"),
            far("IOOBE", "definer ? 0"), "definer 2 0 -> 0");
        edge(16, "no such method", begin, "define 0 0 v 0 0 -> 1", "define 1 7 v 0 0 -> 1",
            refused("IAE", "definer 2 ?", "-1", "8", "-2"), far("IAE", "definer 2 ?"), "definer 2 0 -> 0",
            "definer 2 7 -> 1");
        edge(16, "no class of its line defines it but as abstract", begin, "definer 2 0 -> NSEE",
            "define 0 0 a 0 0 -> 1", "definer 2 0 -> NSEE", "define 2 0 a 0 0 -> 1", "definer 2 0 -> NSEE",
            "define 1 0 s 0 0 -> 1", "definer 2 0 -> 1", "definer 0 0 -> NSEE", "define 1 0 a 0 0 -> 1",
            "definer 2 0 -> NSEE", "define 0 0 o 0 3 -> 1", "definer 2 0 -> 0", "define 2 0 s 0 0 -> 1",
            "definer 2 0 -> 2");
        edge(16, "the order of the line counts, not that of the numbers", classes('t', 0, 3), "extend 2 1 -1 -> 2",
            "extend 2 0 -1 -> 3", "define 0 0 v 0 0 -> 1", "define 1 0 v 0 0 -> 1", "definer 2 0 -> 0");
        edge(16, "the class need not be admitted", begin, "define 2 0 s 0 0 -> 1", "isAdmitted 2 -> false",
            "definer 2 0 -> 2");
        edge(16, "no such class comes before no such method and no definition", begin, "definer 3 8 -> IOOBE",
            "definer 3 0 -> IOOBE", "definer -1 -1 -> IOOBE");
        edge(16, "no such method comes before no definition", begin, "definer 2 8 -> IAE", "definer 2 0 -> NSEE");
    }

    private static void fieldOf() {
        String begin = classes('t', 0, 2) + classes('c', 2, 3) + "extend 2 0 -1 -> 2\n";
        edge(17, "no such class", begin, "defineField 0 0 1 -1 -> 1", refused("IOOBE", "fieldOf ? 0", "-1", "3", "-2"),
            far("IOOBE", "fieldOf ? 0"), "fieldOf 2 0 -> 1", "fieldOf 0 0 -> 1");
        edge(17, "no such field", begin, "defineField 0 0 1 -1 -> 1", "defineField 2 7 2 -1 -> 1",
            refused("IAE", "fieldOf 2 ?", "-1", "8", "-2"), far("IAE", "fieldOf 2 ?"), "fieldOf 2 0 -> 1",
            "fieldOf 2 7 -> 2");
        edge(17, "no class of its line defines it", begin, "defineField 1 0 1 -1 -> 1", "defineField 2 1 1 0 -> 1",
            "fieldOf 2 0 -> NSEE", "fieldOf 0 1 -> NSEE", "fieldOf 2 1 -> 1", "extend 2 1 -1 -> 3", "fieldOf 2 0 -> 1",
            "fieldOf 2 1 -> 2");
        edge(17, "no such class comes before no such field and no definition", begin, "fieldOf 3 8 -> IOOBE",
            "fieldOf -1 0 -> IOOBE");
        edge(17, "no such field comes before no definition", begin, "fieldOf 2 8 -> IAE", "fieldOf 2 0 -> NSEE");
        edge(17, "a field that is seen too early is 0", begin, "defineField 0 0 1 1 -> 1", "defineField 2 1 99 0 -> 1",
            "fieldOf 2 0 -> 1", "fieldOf 2 1 -> 100", "fieldOf 0 0 -> 1");
        edge(17, "one that is its own other field is 0 at first", begin, "defineField 0 0 5 0 -> 1", "fieldOf 2 0 -> 5",
            "defineField 2 0 7 0 -> 1", "fieldOf 2 0 -> 12");
        edge(17, "in one class by rising numbers", begin, "defineField 2 7 1 6 -> 1", "defineField 2 6 2 0 -> 2",
            "defineField 2 0 4 7 -> 3", "fieldOf 2 0 -> 4", "fieldOf 2 6 -> 6", "fieldOf 2 7 -> 7");
        edge(17, "a class ahead in the line sets it in place of one behind", begin, "defineField 0 0 9 -1 -> 1",
            "defineField 2 0 1 -1 -> 1", "fieldOf 2 0 -> 1", "fieldOf 0 0 -> 9");
        StringBuilder longest = new StringBuilder(chain(16));
        longest.append("defineField 0 0 99 -1 -> 1\n");
        for (int type = 1; type < 16; type++) {
            longest.append("defineField " + type + " 0 99 0 -> 1\n");
        }
        edge(17, "along a line of 16", longest.toString(), "fieldOf 15 0 -> 1584", "fieldOf 0 0 -> 99");
    }

    // Promise 18

    private static void openScope() {
        edge(18, "no such scope, but for -1", "openScope 0 -> IOOBE", "openScope -1 -> 0",
            refused("IOOBE", "openScope ?", "1", "-2", "2"), far("IOOBE", "openScope ?"), "openScope 0 -> 1",
            "openScope 2 -> IOOBE", "openScope 1 -> 2");
        edge(18, "there are 5 scopes", "openScope -1 -> 0", "openScope 0 -> 1", "openScope 1 -> 2", "openScope -1 -> 3",
            "openScope 3 -> 4", "openScope -1 -> ISE", "openScope 4 -> ISE", "openScope 0 -> ISE");
        edge(18, "no such scope comes before there being 5", "openScope -1 -> 0", "openScope -1 -> 1",
            "openScope -1 -> 2", "openScope -1 -> 3", "openScope -1 -> 4", "openScope 5 -> IOOBE",
            "openScope -2 -> IOOBE");
    }

    // Promises 19 and 20

    /** Two classes, two scopes, and in the order of the nodes: the variable, 1, 0[X] and 0[1]. */
    private static final String GIVING = """
        addClass t = false -> 0
        addClass c 0 false -> 1
        openScope -1 -> 0
        openScope 0 -> 1
        variable -> 0
        lay 1 -1 -> 1
        lay 0 0 -> 2
        lay 0 1 -> 3
        """;

    private static void gives() {
        String[] names = {"give", "giveBeside"};
        for (int at = 0; at < 2; at++) {
            int promise = 19 + at;
            String call = names[at];
            edge(promise, "no such scope or class", GIVING, refused("IOOBE", call + " ? 1 -1 -1", "-1", "2", "-2"),
                far("IOOBE", call + " ? 1 -1 -1"), call + " 0 1 -1 -1 -> 0", call + " 1 1 -1 -1 -> 1");
            edge(promise, "no such node, for the result", GIVING, refused("NSEE", call + " 0 ? -1 -1", "-1", "4", "-2"),
                far("NSEE", call + " 0 ? -1 -1"), call + " 0 3 -1 -1 -> 0");
            edge(promise, "no such node, for the first type, but for -1", GIVING,
                refused("NSEE", call + " 0 2 ? -1", "-2", "4", "-3"), far("NSEE", call + " 0 2 ? -1"),
                call + " 0 2 -1 -1 -> 0", call + " 0 2 0 -1 -> 1", call + " 0 2 3 -1 -> 2");
            edge(promise, "no such node, for the second type, but for -1", GIVING,
                refused("NSEE", call + " 0 2 -1 ?", "-2", "4", "-3"), far("NSEE", call + " 0 2 -1 ?"),
                call + " 0 2 -1 -1 -> 0", call + " 0 2 -1 0 -> 1", call + " 0 2 -1 3 -> 2");
            edge(promise, "the result is the variable", GIVING, "variable -> 4",
                refused("IAE", call + " 0 ? -1 -1", "0", "4"), call + " 0 0 1 0 -> IAE", call + " 0 2 -1 -1 -> 0");
            edge(promise, "a type that is needed has the variable, but the result has not", GIVING, "lay 0 2 -> 4",
                refused("IAE", call + " 0 1 ?", "0 -1", "-1 0", "2 -1", "-1 2", "4 -1", "-1 4", "1 2", "2 1", "0 0"),
                call + " 0 3 0 -1 -> IAE", call + " 0 1 1 3 -> 0", call + " 0 2 0 2 -> 1", call + " 0 4 2 0 -> 2",
                call + " 0 3 3 1 -> 3", call + " 0 2 1 3 -> 4");
            String nine = "";
            for (int given = 0; given < 9; given++) {
                nine += call + " 0 1 -1 -1 -> " + given + "\n";
            }
            edge(promise, "there are 10 givens", GIVING, nine, call + " 0 0 -1 -1 -> IAE", call + " 1 2 0 0 -> 9",
                call + " 0 1 -1 -1 -> ISE", call + " 1 2 0 0 -> ISE", names[1 - at] + " 0 1 -1 -1 -> ISE");
            edge(promise, "both kinds of them count", GIVING, nine, names[1 - at] + " 0 1 -1 -1 -> 9",
                call + " 0 1 -1 -1 -> ISE", names[1 - at] + " 0 1 -1 -1 -> ISE");
            edge(promise, "a refused one can not be found", GIVING, call + " 0 1 0 -1 -> IAE", notFound("0 1"),
                call + " 0 1 4 -1 -> NSEE", notFound("0 1"), call + " 1 1 -1 -1 -> 0",
                asked("1 1", "g", "0", "1"));
        }
    }

    private static void givesOrder() {
        String[] names = {"give", "giveBeside"};
        for (int at = 0; at < 2; at++) {
            int promise = 19 + at;
            String call = names[at];
            String ten = GIVING;
            for (int given = 0; given < 10; given++) {
                ten += call + " 0 1 -1 -1 -> " + given + "\n";
            }
            edge(promise, "no such scope or class comes before no such node", GIVING, call + " 2 4 -1 -1 -> IOOBE",
                call + " 2 1 4 -1 -> IOOBE", call + " -1 1 -1 4 -> IOOBE", call + " -1 -1 -2 -2 -> IOOBE");
            edge(promise, "no such scope or class comes before the variable", GIVING, call + " 2 0 -1 -1 -> IOOBE",
                call + " 2 1 0 -1 -> IOOBE");
            edge(promise, "no such scope or class comes before there being 10", ten, call + " 2 1 -1 -1 -> IOOBE");
            edge(promise, "no such node comes before the variable", GIVING, call + " 0 0 4 -1 -> NSEE",
                call + " 0 0 -1 4 -> NSEE", call + " 0 1 0 4 -> NSEE", call + " 0 1 -2 0 -> NSEE",
                call + " 0 -1 0 -1 -> NSEE");
            edge(promise, "no such node comes before there being 10", ten, call + " 0 4 -1 -1 -> NSEE",
                call + " 0 1 4 -1 -> NSEE", call + " 0 1 -1 4 -> NSEE");
            edge(promise, "the variable comes before there being 10", ten, call + " 0 0 -1 -1 -> IAE",
                call + " 0 1 0 -1 -> IAE", call + " 0 1 -1 2 -> IAE", call + " 0 1 1 1 -> ISE");
        }
    }

    // Promises 21 to 23

    /** As a run for each of the three calls that look for a given; they must agree. */
    private static void find(String sentence, String... run) {
        for (int promise = 21; promise <= 23; promise++) {
            PROMISES.add(promise);
        }
        SCRIPT.play("promises 21 to 24, " + sentence, String.join("\n", run));
    }

    private static void finds() {
        find("no such scope", GIVING, "give 0 1 -1 -1 -> 0", noAsking("-1 1", "IOOBE"), noAsking("2 1", "IOOBE"),
            noAsking("2147483647 1", "IOOBE"), noAsking("-2147483648 1", "IOOBE"), asked("0 1", "g", "0", "1"),
            asked("1 1", "g", "0", "1"));
        find("no such scope of 5", GIVING, "openScope -1 -> 2", "openScope -1 -> 3", "openScope 3 -> 4",
            "give 4 1 -1 -1 -> 0", noAsking("5 1", "IOOBE"), asked("4 1", "g", "0", "1"));
        find("no such node", GIVING, "give 0 3 -1 -1 -> 0", noAsking("0 -1", "NSEE"), noAsking("0 4", "NSEE"),
            noAsking("0 2147483647", "NSEE"), noAsking("0 -2147483648", "NSEE"), asked("0 3", "g", "0", "1"));
        find("the type is not closed", GIVING, "give 0 2 -1 -1 -> 0", noAsking("0 0", "IAE"), noAsking("0 2", "IAE"),
            "lay 0 2 -> 4", around(0, 4, 7), noAsking("0 7", "IAE"), asked("0 3", "g", "0", "1"));
        find("none is found", GIVING, notFound("0 1"), notFound("0 3"), "give 0 3 -1 -1 -> 0", notFound("0 1"),
            asked("0 3", "g", "0", "1"), "give 0 3 -1 -1 -> 1", ambiguous("0 3"));
        find("of ten givens the last one", GIVING, "give 0 1 -1 -1 -> 0\n"
            + "give 0 1 -1 -1 -> 1\ngive 0 1 -1 -1 -> 2\ngive 0 1 -1 -1 -> 3\ngive 0 1 -1 -1 -> 4\n"
            + "give 0 1 -1 -1 -> 5\ngive 0 1 -1 -1 -> 6\ngive 0 1 -1 -1 -> 7\ngive 0 1 -1 -1 -> 8\n",
            "give 0 3 -1 -1 -> 9", asked("0 3", "g", "9", "1"), ambiguous("0 1"));
    }

    private static void findsFitting() {
        String family = """
            addClass t 0 false -> 0
            addClass t 0 false -> 1
            addClass c + false -> 2
            addClass c - false -> 3
            addClass c = false -> 4
            extend 1 0 -1 -> 2
            openScope -1 -> 0
            variable -> 0
            lay 0 -1 -> 1
            lay 1 -1 -> 2
            """;
        find("a closed result fits below, not above", family, "give 0 1 -1 -1 -> 0", notFound("0 2"),
            asked("0 1", "g", "0", "1"), "give 0 2 -1 -1 -> 1", asked("0 2", "g", "1", "1"), ambiguous("0 1"));
        find("a closed result fits by the variance of its parameter", family, "lay 2 1 -> 3", "lay 2 2 -> 4",
            "lay 3 1 -> 5", "lay 3 2 -> 6", "lay 4 1 -> 7", "lay 4 2 -> 8", "give 0 4 -1 -1 -> 0",
            "give 0 5 -1 -1 -> 1", "give 0 7 -1 -1 -> 2", asked("0 3", "g", "0", "1"), asked("0 4", "g", "0", "1"),
            asked("0 5", "g", "1", "1"), asked("0 6", "g", "1", "1"), asked("0 7", "g", "2", "1"), notFound("0 8"));
        find("one with the variable fits if it becomes the type, not one above it", family, "addClass c + false -> 5",
            "extend 5 2 -2 -> 2", "lay 2 0 -> 3", "lay 5 0 -> 4", "lay 2 1 -> 5", "lay 5 1 -> 6", "lay 5 2 -> 7",
            "give 0 4 -1 -1 -> 0", notFound("0 5"), asked("0 6", "g", "0", "1"), asked("0 7", "g", "0", "1"),
            "give 0 3 -1 -1 -> 1", asked("0 5", "g", "1", "1"), asked("0 6", "g", "0", "1"));
        find("one with the variable fits as far as it goes", family, "lay 2 0 -> 3", "lay 3 3 -> 4", "lay 2 1 -> 5",
            "lay 3 5 -> 6", "lay 3 1 -> 7", "lay 2 5 -> 8", "lay 3 8 -> 9", "lay 2 6 -> 10",
            "give 0 4 -1 -1 -> 0", notFound("0 5"), asked("0 6", "g", "0", "1"), notFound("0 7"), notFound("0 8"),
            asked("0 9", "g", "0", "1"), notFound("0 10"), notFound("0 1"));
        find("one with the variable at the depth of 6", family, "lay 2 0 -> 3", around(2, 3, 7), "lay 2 1 -> 8",
            around(2, 8, 12), "give 0 7 -1 -1 -> 0", asked("0 12", "g", "0", "1"), notFound("0 11"),
            "give 0 6 -1 -1 -> 1", asked("0 11", "g", "1", "1"), ambiguous("0 12"));
        find("the type that is put stands in each need", family, "lay 2 0 -> 3", "lay 3 0 -> 4", "lay 4 0 -> 5",
            "lay 2 1 -> 6", "lay 3 1 -> 7", "lay 4 1 -> 8", "lay 3 2 -> 9", "lay 4 2 -> 10", "lay 2 2 -> 11",
            "give 0 3 4 5 -> 0", notFound("0 6"), "give 0 7 -1 -1 -> 1", notFound("0 6"), "give 0 10 -1 -1 -> 2",
            notFound("0 6"), "give 0 8 -1 -1 -> 3", asked("0 6", "g", "0", "3"),
            // 3[0] is below 3[1], so it serves here too
            asked("0 11", "g", "0", "3"));
    }

    private static void findsLevels() {
        String five = """
            addClass t 0 false -> 0
            addClass c 0 false -> 1
            addClass c = false -> 2
            extend 1 0 -1 -> 2
            openScope -1 -> 0
            openScope 0 -> 1
            openScope 1 -> 2
            openScope 2 -> 3
            openScope 3 -> 4
            variable -> 0
            lay 1 -1 -> 1
            lay 0 -1 -> 2
            lay 2 1 -> 3
            lay 2 3 -> 4
            """;
        find("from the innermost of 5 scopes to the companions", five, notFound("4 1"), "giveBeside 0 1 -1 -1 -> 0",
            asked("4 1", "g", "0", "1"), asked("0 1", "g", "0", "1"), "give 0 1 -1 -1 -> 1", asked("4 1", "g", "1", "1"),
            "give 1 1 -1 -1 -> 2", asked("4 1", "g", "2", "1"), asked("0 1", "g", "1", "1"), "give 3 1 -1 -1 -> 3",
            asked("4 1", "g", "3", "1"), asked("2 1", "g", "2", "1"), "give 4 1 -1 -1 -> 4", asked("4 1", "g", "4", "1"),
            asked("3 1", "g", "3", "1"));
        find("scopes beside or inside are not asked", five.replace("openScope 3 -> 4", "openScope -1 -> 4"),
            "give 3 1 -1 -1 -> 0", notFound("0 1"), notFound("2 1"), notFound("4 1"), asked("3 1", "g", "0", "1"),
            "give 4 1 -1 -1 -> 1", asked("3 1", "g", "0", "1"), asked("4 1", "g", "1", "1"));
        find("the first level at which some count decides, be it ambiguous", five, "give 0 1 -1 -1 -> 0",
            "give 2 1 -1 -1 -> 1", "give 2 1 -1 -1 -> 2", ambiguous("4 1"), ambiguous("2 1"),
            asked("1 1", "g", "0", "1"), "give 3 1 -1 -1 -> 3", asked("4 1", "g", "3", "1"));
        find("companions of the class and of its line", five, "giveBeside 0 1 -1 -1 -> 0", asked("0 1", "g", "0", "1"),
            asked("0 2", "g", "0", "1"), "giveBeside 1 1 -1 -1 -> 1", ambiguous("0 1"), asked("0 2", "g", "0", "1"));
        find("companions of the classes that stand in the type, at any depth", five, around(2, 4, 7),
            "giveBeside 0 7 -1 -1 -> 0", asked("0 7", "g", "0", "1"), "giveBeside 1 6 -1 -1 -> 1",
            asked("0 6", "g", "1", "1"), "giveBeside 2 4 -1 -1 -> 2", asked("0 4", "g", "2", "1"),
            "giveBeside 2 1 -1 -1 -> 3", notFound("0 1"));
        find("the companion of the first class is not asked but for its own", five, "addClass c 0 false -> 3",
            "lay 3 -1 -> 5", "giveBeside 0 5 -1 -1 -> 0", notFound("0 5"), "giveBeside 3 5 -1 -1 -> 1",
            asked("0 5", "g", "1", "1"));
        find("companions of other classes are not asked", five, "addClass c 0 false -> 3", "giveBeside 3 1 -1 -1 -> 0",
            notFound("0 1"), notFound("0 2"), "giveBeside 2 1 -1 -1 -> 1", notFound("4 1"),
            // nor those of classes that have it in their lines
            "giveBeside 1 2 -1 -1 -> 2", notFound("0 2"));
        find("the companion of the last of 16 classes", classes('c', 0, 16), "openScope -1 -> 0", "lay 15 -1 -> 0",
            "lay 0 -1 -> 1", "giveBeside 15 0 -1 -1 -> 0", asked("0 0", "g", "0", "1"), "giveBeside 0 1 -1 -1 -> 1",
            asked("0 1", "g", "1", "1"));
    }

    private static void findsCounting() {
        String begin = """
            addClass c 0 false -> 0
            addClass c 0 false -> 1
            addClass c = false -> 2
            openScope -1 -> 0
            openScope 0 -> 1
            variable -> 0
            lay 0 -1 -> 1
            lay 1 -1 -> 2
            lay 2 0 -> 3
            lay 2 1 -> 4
            """;
        find("one alone counts", begin, "give 0 3 -1 -1 -> 0", asked("0 4", "g", "0", "1"));
        find("one alone of those that count has a closed result", begin, "give 0 3 -1 -1 -> 0", "give 0 4 -1 -1 -> 1",
            asked("0 4", "g", "1", "1"), "give 0 3 -1 -1 -> 2", asked("0 4", "g", "1", "1"), "give 0 4 -1 -1 -> 3",
            ambiguous("0 4"));
        find("two with the variable, and none with a closed result", begin, "give 0 3 -1 -1 -> 0",
            "give 0 3 -1 -1 -> 1", ambiguous("0 4"), "give 1 3 -1 -1 -> 2", asked("1 4", "g", "2", "1"));
        find("one whose need is not found does not count", begin, "give 0 4 2 -1 -> 0", notFound("0 4"),
            "give 0 4 -1 -1 -> 1", asked("0 4", "g", "1", "1"), "give 0 2 -1 -1 -> 2", ambiguous("0 4"));
        find("each of both needs is asked", begin, "give 0 4 1 2 -> 0", notFound("0 4"), "give 0 1 -1 -1 -> 1",
            notFound("0 4"), "give 0 2 -1 -1 -> 2", asked("0 4", "g", "0", "3"), "give 0 1 -1 -1 -> 3", notFound("0 4"));
        find("the second need alone, and the first alone", begin, "give 0 4 -1 2 -> 0", notFound("0 4"),
            "give 0 2 -1 -1 -> 1", asked("0 4", "g", "0", "2"), "give 1 4 1 -1 -> 2", asked("1 4", "g", "0", "2"),
            "give 1 1 -1 -1 -> 3", asked("1 4", "g", "2", "2"));
        find("an ambiguous need is not found", begin, "give 0 4 1 -1 -> 0", "give 0 1 -1 -1 -> 1",
            asked("0 4", "g", "0", "2"), "give 0 1 -1 -1 -> 2", notFound("0 4"), ambiguous("0 1"));
        find("those that do not count leave the level to the next one", begin, "give 1 4 2 -1 -> 0",
            "give 1 4 2 -1 -> 1", "give 0 3 -1 -1 -> 2", asked("1 4", "g", "2", "1"), "give 1 2 -1 -1 -> 3",
            ambiguous("1 4"), asked("0 4", "g", "2", "1"));
        find("needs are looked for in the scope that is asked, from its inside", begin, "give 0 4 1 -1 -> 0",
            "give 1 1 -1 -1 -> 1", notFound("0 4"), asked("1 4", "g", "0", "2"), "giveBeside 2 4 1 -1 -> 2",
            notFound("0 4"), asked("1 4", "g", "0", "2"));
        find("needs of a companion's given are looked for in the scope too", begin, "giveBeside 2 3 0 -1 -> 0",
            "give 1 1 -1 -1 -> 1", notFound("0 4"), asked("1 4", "g", "0", "2"));
        find("a given that needs its own type is not found", begin, "give 0 1 1 -1 -> 0", notFound("0 1"),
            "give 0 1 -1 -1 -> 1", notFound("0 2"));
    }

    private static void findsDeep() {
        String row = classes('c', 0, 6) + """
            openScope -1 -> 0
            lay 0 -1 -> 0
            lay 1 -1 -> 1
            lay 2 -1 -> 2
            lay 3 -1 -> 3
            lay 4 -1 -> 4
            """;
        find("needed below two others is found, below three is not", row, "give 0 0 1 -1 -> 0", "give 0 1 2 -1 -> 1",
            notFound("0 0"), "give 0 2 -1 -1 -> 2", asked("0 0", "g", "0", "3"), asked("0 1", "g", "1", "2"),
            "addClass c 0 false -> 6");
        find("a fourth one is not found, but it is when asked for itself", row, "give 0 0 1 -1 -> 0",
            "give 0 1 2 -1 -> 1", "give 0 2 3 -1 -> 2", "give 0 3 -1 -1 -> 3", notFound("0 0"),
            asked("0 1", "g", "1", "3"), asked("0 2", "g", "2", "2"), asked("0 3", "g", "3", "1"),
            "give 0 2 -1 -1 -> 4", asked("0 0", "g", "0", "3"), ambiguous("0 2"));
        find("so it is by the second need", row, "give 0 0 -1 1 -> 0", "give 0 1 -1 2 -> 1", "give 0 2 -1 3 -> 2",
            "give 0 3 -1 -1 -> 3", notFound("0 0"), asked("0 1", "g", "1", "3"));
        find("too deep makes one count no more, and so another one alone", row, "give 0 0 1 -1 -> 0",
            "give 0 1 2 -1 -> 1", "give 0 2 3 -1 -> 2", "give 0 3 -1 -1 -> 3", "give 0 0 4 -1 -> 4",
            "give 0 4 -1 -1 -> 5", asked("0 0", "g", "4", "2"));
        find("a circle of needs ends", row, "give 0 0 1 -1 -> 0", "give 0 1 0 -1 -> 1", notFound("0 0"), notFound("0 1"),
            // below 0 the one that needs 0 again goes too deep; asked for itself, 1 has two that count
            "give 0 1 -1 -1 -> 2", asked("0 0", "g", "0", "2"), ambiguous("0 1"));
        find("types that grow", """
            addClass c = false -> 0
            addClass c 0 false -> 1
            openScope -1 -> 0
            variable -> 0
            lay 0 0 -> 1
            lay 0 1 -> 2
            lay 1 -1 -> 3
            lay 0 3 -> 4
            """, around(0, 4, 8), "give 0 1 2 -1 -> 0", notFound("0 8"), notFound("0 4"), "lay 0 4 -> 9",
            "give 0 9 -1 -1 -> 1",
            // 0[1] needs 0[0[1]], for which the closed one counts alone, as the first one goes on to the end
            asked("0 4", "g", "0", "2"), asked("0 5", "g", "1", "1"), notFound("0 6"));
    }

    private static void findsOrder() {
        find("no such scope comes before no such node", GIVING, noAsking("2 4", "IOOBE"), noAsking("-1 -1", "IOOBE"));
        find("no such scope comes before a type that is not closed", GIVING, noAsking("2 0", "IOOBE"),
            noAsking("-1 2", "IOOBE"));
        find("no such scope comes before none being found", GIVING, noAsking("2 1", "IOOBE"), notFound("0 1"));
        find("no such node comes before none being found", GIVING, noAsking("0 4", "NSEE"), notFound("0 3"));
        find("a type that is not closed comes before none being found", GIVING, noAsking("0 0", "IAE"),
            noAsking("0 2", "IAE"), notFound("0 1"));
    }

    // Promise 24

    private static void used() {
        String row = classes('c', 0, 4) + """
            openScope -1 -> 0
            openScope 0 -> 1
            lay 0 -1 -> 0
            lay 1 -1 -> 1
            lay 2 -1 -> 2
            lay 3 -1 -> 3
            """;
        edge(24, "from one alone to each need twice", row, "give 0 2 -1 -1 -> 0", "used 0 2 -> 1", "give 0 1 2 -1 -> 1",
            "used 0 1 -> 2", "give 0 0 1 -1 -> 2", "used 0 0 -> 3", "give 1 1 2 2 -> 3", "used 1 1 -> 3",
            "used 1 0 -> 4", "give 1 0 1 1 -> 4", "used 1 0 -> 7", "used 0 0 -> 3");
        edge(24, "one that is used twice counts twice", row, "give 0 0 1 2 -> 0", "give 0 1 2 3 -> 1",
            "give 0 2 -1 -1 -> 2", "give 0 3 -1 -1 -> 3", "used 0 0 -> 5", "used 0 1 -> 3");
        edge(24, "those that fit but are not found are not used", row, "give 0 0 1 -1 -> 0", "give 0 0 3 -1 -> 1",
            "give 0 1 -1 -1 -> 2", "used 0 0 -> 2", "give 1 1 2 -1 -> 3", "give 0 2 -1 -1 -> 4", "used 0 0 -> 2",
            "used 1 0 -> 3");
        edge(24, "what is found below others may be another one than above", row, "give 0 1 2 -1 -> 0",
            "give 0 2 3 -1 -> 1", "give 0 3 -1 -1 -> 2", "give 0 0 1 -1 -> 3", "used 0 1 -> 3", "used 0 0 -> UOE",
            "giveBeside 2 2 -1 -1 -> 4", "used 0 0 -> 3", "used 0 1 -> 3", "find 0 2 -> 1", "used 0 2 -> 2");
        edge(24, "none is found", row, "used 0 0 -> UOE", "give 0 0 -1 -1 -> 0", "used 0 0 -> 1", "give 0 0 -1 -1 -> 1",
            "used 0 0 -> UOE", "used 1 0 -> UOE");
    }

    // Promises 25 to 27

    private static final String FAMILY = """
        addClass t 0 true -> 0
        addClass t 0 true -> 1
        addClass c 0 false -> 2
        addClass c 0 true -> 3
        addClass t 0 true -> 4
        addClass c 0 false -> 5
        extend 1 0 -1 -> 2
        extend 2 1 -1 -> 3
        extend 3 0 -1 -> 2
        extend 5 3 -1 -> 3
        """;

    private static void leaves() {
        edge(25, "no such class", FAMILY, refused("IOOBE", "leaves ?", "-1", "6", "-2"), far("IOOBE", "leaves ?"),
            "leaves 0 -> 3");
        edge(25, "it is not sealed", FAMILY, "leaves 2 -> UOE", "leaves 5 -> UOE", "leaves 3 -> 2", "leaves 1 -> 1");
        edge(25, "from none to 16", FAMILY, "leaves 4 -> 0", "leaves 0 -> 3");
        edge(25, "of 16 in a chain", chain(16).replace("addClass c 0 false -> 0", "addClass c 0 true -> 0"),
            "leaves 0 -> 16", "leaves 15 -> UOE");
        edge(25, "traits are no leaves, a class is its own", "addClass t 0 true -> 0", "addClass t 0 true -> 1",
            "addClass c 0 true -> 2", "extend 1 0 -1 -> 2", "leaves 0 -> 0", "leaves 2 -> 1", "extend 2 1 -1 -> 3",
            "leaves 0 -> 1", "leaves 1 -> 1");
        edge(25, "no such class comes before one that is not sealed", classes('c', 0, 1), "leaves 1 -> IOOBE",
            "leaves 0 -> UOE");
    }

    private static void missing() {
        match(26, "missing");
        String all = classes('c', 0, 16).replace(" false", " true");
        edge(26, "the cases of 16 classes", all, "missing 15 65535 -> -1", "missing 15 32767 -> 15",
            "missing 15 32768 -> -1", "missing 0 1 -> -1", "missing 0 65534 -> 0", "missing 0 0 -> 0",
            "missing 15 65536 -> IAE", "missing 15 -1 -> IAE");
        edge(26, "no cases, and no leaves", FAMILY, "missing 0 0 -> 2", "missing 4 0 -> -1", "missing 4 63 -> -1",
            "missing 3 0 -> 3");
        edge(26, "the first leaf is that of the lowest number", FAMILY, "missing 0 4 -> 3", "missing 0 8 -> 2",
            "missing 0 12 -> -1", "missing 0 32 -> 2", "missing 0 36 -> 3", "missing 3 32 -> 3", "missing 3 8 -> -1",
            "missing 3 4 -> 3", "missing 3 1 -> -1", "missing 0 16 -> 2");
        edge(26, "a case takes the leaves in whose lines it is, not those of its own line", FAMILY, "missing 3 32 -> 3",
            "missing 0 2 -> 3", "missing 1 1 -> -1", "missing 1 32 -> 2");
    }

    private static void needless() {
        match(27, "needless");
        String all = classes('c', 0, 16).replace(" false", " true");
        edge(27, "the cases of 16 classes", all, "needless 15 65535 -> 15", "needless 15 32767 -> 15",
            "needless 15 32768 -> 0", "needless 0 65535 -> 15", "needless 15 65536 -> IAE", "needless 15 -1 -> IAE");
        edge(27, "of 16 in a chain", chain(16).replace("addClass c 0 false -> 0", "addClass c 0 true -> 0"),
            "needless 0 65535 -> 15", "needless 0 65534 -> 14", "needless 0 32768 -> 0", "needless 0 3 -> 1");
        edge(27, "no cases, and no leaves", FAMILY, "needless 0 0 -> 0", "needless 4 0 -> 0", "needless 4 16 -> 1",
            "needless 4 63 -> 6");
        edge(27, "they are tried by rising numbers", FAMILY, "needless 0 40 -> 1", "needless 0 36 -> 0",
            "needless 0 12 -> 0", "needless 0 6 -> 1", "needless 0 14 -> 1", "needless 0 1 -> 0", "needless 0 3 -> 1",
            "needless 3 44 -> 2", "needless 1 8 -> 1");
        edge(27, "a leaf that two cases take", FAMILY, "addClass c 0 false -> 6", "extend 6 1 -1 -> 3",
            "extend 6 3 -1 -> 4", "needless 0 10 -> 0", "needless 0 72 -> 1", "needless 0 66 -> 1",
            "needless 0 68 -> 0", "needless 0 74 -> 1");
    }

    /** What missing and needless refuse in the same way. */
    private static void match(int promise, String call) {
        edge(promise, "no such class", FAMILY, refused("IOOBE", call + " ? 0", "-1", "6", "-2"),
            far("IOOBE", call + " ? 0"), call + " 4 0 -> " + (promise == 26 ? -1 : 0));
        edge(promise, "the cases are out of range", FAMILY, refused("IAE", call + " 0 ?", "-1", "65536", "65537",
            "131072", "-65536", "2147483647", "-2147483648"), call + " 4 0 -> " + (promise == 26 ? -1 : 0));
        edge(promise, "there is no such class, for one of the cases", FAMILY,
            refused("IAE", call + " 0 ?", "64", "65", "127", "32768", "65535"),
            call + " 4 63 -> " + (promise == 26 ? -1 : 6), classes('c', 6, 7), call + " 0 128 -> IAE",
            call + " 4 64 -> " + (promise == 26 ? -1 : 1));
        edge(promise, "it is not sealed", FAMILY, call + " 2 0 -> UOE", call + " 5 63 -> UOE",
            call + " 3 8 -> " + (promise == 26 ? -1 : 0));
        edge(promise, "no such class comes before wrong cases", FAMILY, call + " 6 65536 -> IOOBE",
            call + " -1 -1 -> IOOBE", call + " 6 64 -> IOOBE");
        edge(promise, "wrong cases come before a class that is not sealed", FAMILY, call + " 2 65536 -> IAE",
            call + " 2 -1 -> IAE", call + " 2 64 -> IAE", call + " 2 32 -> UOE");
    }

    // Promises 28 to 31

    private static void compared() {
        edge(28, "calls that throw are not counted", "compared -> 0", "isBelow 0 0 -> NSEE", "compared -> 0",
            "variable -> 0", "isBelow 0 0 -> IAE", "compared -> 0", classes('c', 0, 1), "lay 0 -1 -> 1",
            "isBelow 0 1 -> IAE", "isBelow 1 2 -> NSEE", "isBelow 1 1 -> true", "compared -> 1", "isBelow 1 0 -> IAE",
            "compared -> 1");
        edge(28, "both answers count, and each call once", "addClass c + false -> 0", classes('c', 1, 3),
            "lay 1 -1 -> 0", "lay 2 -1 -> 1", "lay 0 0 -> 2", around(0, 2, 6), "isBelow 0 1 -> false",
            "isBelow 6 6 -> true", "isBelow 6 5 -> false", "compared -> 3", "compared -> 3");
        edge(28, "what other calls compare is not counted", "addClass c + false -> 0", classes('c', 1, 2),
            "lay 1 -1 -> 0", "lay 0 0 -> 1", "openScope -1 -> 0", "give 0 1 0 -1 -> 0", "give 0 0 -1 -1 -> 1",
            asked("0 1", "g", "0", "2"), "isSound -> true", "base 1 0 -> 65", "compared -> 0");
        StringBuilder often = new StringBuilder(classes('c', 0, 1) + "lay 0 -1 -> 0\n");
        for (int call = 0; call < 509; call++) {
            often.append("isBelow 0 0 -> true\n");
        }
        edge(28, "as often as an object can be asked", often.toString(), "compared -> 509");
    }

    private static void shares() {
        edge(29, "there are no classes", "admittedShare -> AE", "variable -> 0", "openScope -1 -> 0",
            "admittedShare -> AE", "addClass x 0 false -> IAE", "admittedShare -> AE", "addClass t 0 false -> 0",
            "admittedShare -> 0.0");
        edge(29, "of none to all", classes('t', 0, 1), "admittedShare -> 0.0", classes('c', 1, 2),
            "admittedShare -> 0.5", classes('c', 2, 3), "admittedShare -> 0.6666667", "define 2 0 a 0 0 -> 1",
            "admittedShare -> 0.33333334", classes('c', 3, 16), "admittedShare -> 0.875");
        edge(29, "of 16 all, and all but one", classes('c', 0, 16), "admittedShare -> 1.0", "define 7 0 a 0 0 -> 1",
            "admittedShare -> 0.9375");
        edge(29, "of seven, as a float", classes('c', 0, 3), classes('t', 3, 7), "admittedShare -> 0.42857143");
        edge(30, "there are no classes", "meanLine -> AE", "openScope -1 -> 0", "meanLine -> AE",
            "addClass t x false -> IAE", "meanLine -> AE", "addClass t 0 false -> 0", "meanLine -> 1.0");
        edge(30, "from 1 to that of a chain of 16", classes('c', 0, 15), "meanLine -> 1.0", "addClass c 0 false -> 15",
            "meanLine -> 1.0");
        edge(30, "of a chain of 16", chain(16), "meanLine -> 8.5");
        edge(30, "as a double", classes('c', 0, 3), "extend 1 0 -1 -> 2", "meanLine -> 1.3333333333333333",
            "extend 1 0 -1 -> ISE", "meanLine -> 1.3333333333333333", "extend 2 0 -1 -> 2",
            "meanLine -> 1.6666666666666667");
    }

    private static void isSound() {
        edge(31, "of an empty object", "isSound -> true", "variable -> 0", "isSound -> true", "openScope -1 -> 0",
            "isSound -> true");
        edge(31, "of a chain of 16, whose methods have no end or 30 definitions", nexts(16, "o 2 1"), nextsBehind(16),
            "isSound -> true", "define 14 1 a 0 0 -> 2", "define 15 1 a 0 0 -> 2", "isSound -> true",
            "define 15 7 a 0 0 -> 3", "isAdmitted 15 -> false", "isSound -> true");
        edge(31, "of 120 nodes, of all variances", "addClass t + false -> 0", "addClass t - false -> 1",
            "addClass t = false -> 2", "addClass c 0 false -> 3", "lay 3 -1 -> 0", around(0, 0, 5), "lay 1 0 -> 6",
            around(1, 6, 10), "lay 2 0 -> 11", around(2, 11, 15), "variable -> 16", "lay 0 16 -> 17",
            variables(18, 120), "isSound -> true", "variable -> ISE", "isSound -> true");
        edge(31, "of types that come back to themselves", """
            addClass t - false -> 0
            addClass c 0 false -> 1
            lay 1 -1 -> 0
            lay 0 0 -> 1
            extend 1 0 1 -> 2
            isSound -> true
            """);
    }
}
