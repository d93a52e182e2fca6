import java.util.ArrayList;
import java.util.List;

/**
 * Each call of the face with every mix of edge values for its arguments, in an empty, a small, a
 * wide and a full guild, asked of the program and of the model: so each pair of exceptions that can
 * apply together is met, whichever arguments are wrong.
 */
public final class EdgeGridTest {
    private static final int MOST_CALLS = 512;

    private static final String SMALL = """
        addClass t + true
        addClass c - true
        addClass t 0 true
        addClass c 0 false
        addClass c = false
        addClass c 0 false
        variable
        lay 2 -1
        lay 3 -1
        lay 0 0
        lay 0 1
        lay 4 2
        extend 3 2 -1
        extend 4 0 -2
        extend 4 1 1
        extend 5 4 2
        define 2 0 v 5 0
        define 3 0 s 7 0
        define 3 7 o 1 0
        define 5 0 o 1 7
        define 5 7 o 1 0
        defineField 2 0 3 -1
        defineField 3 7 5 0
        openScope -1
        openScope 0
        give 0 2 -1 -1
        give 1 3 0 -1
        giveBeside 2 5 2 -1
        isBelow 2 1
        """;

    /** The last class has three parents, two of them with a base of the first one. */
    private static final String WIDE = """
        addClass t + false
        addClass t + false
        addClass t - false
        addClass c = true
        addClass c + false
        addClass c 0 true
        variable
        lay 5 -1
        lay 0 1
        lay 0 2
        lay 0 3
        lay 0 4
        lay 0 5
        lay 1 0
        extend 1 0 -2
        extend 2 0 1
        extend 3 0 1
        extend 3 2 -2
        extend 4 1 -2
        extend 5 4 1
        extend 5 3 1
        extend 5 0 1
        openScope -1
        give 0 6 -1 -1
        """;

    private static final String FULL = SMALL + "addClass t 0 false\n".repeat(10) + "variable\n".repeat(56)
        + "lay 3 -1\n".repeat(58) + "openScope 1\nopenScope 2\nopenScope -1\n" + "give 1 4 -1 -1\n".repeat(7);

    private static int asked = 0;
    private static int refused = 0;
    private static int wrong = 0;

    private final List<String> begin;
    private Program program;
    private Model model;
    private int calls;

    private EdgeGridTest(String begin) {
        this.begin = begin.lines().toList();
        renew();
    }

    public static void main(String[] arguments) {
        for (String begin : List.of("", SMALL, WIDE, FULL)) {
            new EdgeGridTest(begin).all();
        }
        System.out.println("EdgeGridTest: " + asked + " calls, " + refused + " refused, " + wrong + " wrong");
        if (wrong > 0 || refused < 10000) {
            System.exit(1);
        }
    }

    private void renew() {
        program = new Program();
        model = new Model();
        calls = 0;
        for (String line : begin) {
            String got = Script.ask(program, line);
            String due = Script.ask(model, line);
            calls++;
            if (!got.equals(due) || due.endsWith("Exception")) {
                throw new Error("the beginning is refused: " + line + ", " + got + ", due is " + due);
            }
        }
    }

    private void all() {
        int[] types = edges(model.sorts.size());
        int[] nodes = edges(model.nodes.size());
        int[] scopes = edges(model.scopes.size());
        int[] members = {Integer.MIN_VALUE, -1, 0, 7, 8, Integer.MAX_VALUE};
        int[] numbers = {Integer.MIN_VALUE, -1, 0, 99, 100, Integer.MAX_VALUE};
        int[] kinds = {'t', 'c', 's', 'u', 'b', 'd', 'T', 0, 65535};
        int[] variances = {'+', '-', '=', '0', '*', ',', '.', '1', '<', '>', 0, 65535};
        int[] methodKinds = {'a', 'v', 's', 'o', 'A', 'b', 'x', 0, 65535};
        int[] cases = {Integer.MIN_VALUE, -1, 0, 1, 31, 32, 63, 64, 65535, 65536, Integer.MAX_VALUE};
        int[] arguments = with(nodes, -2, -3);
        for (String call : List.of("variable", "compared", "admittedShare", "meanLine", "isSound")) {
            grid(call);
        }
        for (String call : List.of("lineSize", "isAdmitted", "leaves")) {
            grid(call, types);
        }
        for (String call : List.of("call", "callAnew", "definer", "fieldOf")) {
            grid(call, types, members);
        }
        for (String call : List.of("look", "find", "findAnew", "used")) {
            grid(call, scopes, nodes);
        }
        for (String call : List.of("missing", "needless")) {
            grid(call, types, cases);
        }
        grid("addClass", kinds, variances, new int[] {0, 1});
        grid("extend", types, types, arguments);
        grid("lineAt", types, edges(model.sorts.size() - 1));
        grid("lay", types, arguments);
        grid("number", nodes);
        grid("base", nodes, types);
        grid("isBelow", nodes, nodes);
        grid("define", types, members, methodKinds, numbers, members);
        grid("defineField", types, members, numbers, with(members, -2, 3));
        grid("openScope", with(scopes, -2, 2));
        int[] few = {-2, -1, 0, 1, 3, 4, model.nodes.size() - 1, model.nodes.size()};
        grid("give", scopes, few, few, few);
        grid("giveBeside", types, few, few, few);
    }

    /** All numbers of a short row and those at its ends; the first and the last ones of a long one. */
    private static int[] edges(int count) {
        List<Integer> all = new ArrayList<>(List.of(Integer.MIN_VALUE, -1));
        for (int one = 0; one < count; one++) {
            if (one < 8 || one >= count - 2) {
                all.add(one);
            }
        }
        all.add(Math.max(count, 0));
        all.add(Integer.MAX_VALUE);
        return all.stream().mapToInt(one -> one).toArray();
    }

    private static int[] with(int[] row, int... more) {
        List<Integer> all = new ArrayList<>();
        for (int one : row) { all.add(one); }
        for (int one : more) { all.add(one); }
        return all.stream().mapToInt(one -> one).toArray();
    }

    private void grid(String call, int[]... values) {
        mix(call, values, new int[values.length], 0);
    }

    private void mix(String call, int[][] values, int[] arguments, int at) {
        if (at == values.length) {
            ask(call, arguments);
            return;
        }
        for (int value : values[at]) {
            arguments[at] = value;
            mix(call, values, arguments, at + 1);
        }
    }

    /** An accepted call that builds has a new guild behind it; refused ones have the same guild. */
    private void ask(String call, int[] arguments) {
        if (calls >= MOST_CALLS) {
            renew();
        }
        String due = model.ask(call, arguments);
        String got = program.ask(call, arguments);
        calls++;
        asked++;
        boolean isRefused = due.endsWith("Exception");
        if (isRefused) {
            refused++;
        }
        if (!got.equals(due)) {
            wrong++;
            System.out.println(call + " " + java.util.Arrays.toString(arguments) + " answers " + got + ", due is " + due
                + ", behind " + begin.size() + " calls and " + (calls - begin.size()) + " asked");
        }
        if (!isRefused && List.of("addClass", "extend", "variable", "lay", "define", "defineField", "openScope", "give",
                "giveBeside").contains(call)) {
            renew();
        }
    }
}
