import java.util.ArrayList;
import java.util.List;
import java.util.Random;
import java.util.TreeMap;

/** Random runs, each call asked of the program and of the model, which must answer the same. */
public final class ModelTest {
    private static final int RUNS = 6000;
    private static final int CALLS = 512;
    private static final String[] QUERIES = {"lineSize", "lineAt", "number", "base", "isBelow", "isAdmitted",
        "call", "callAnew", "definer", "fieldOf", "look", "find", "findAnew", "used", "leaves", "missing",
        "needless", "compared", "admittedShare", "meanLine", "isSound"};

    private static final TreeMap<String, Integer> SEEN = new TreeMap<>();
    private static int wrong = 0;

    private final Random random;
    private final Program program = new Program();
    private final Model model = new Model();
    private final List<String> told = new ArrayList<>();
    /** How often an argument is anything at all, in percent. */
    private final int wild;
    /** How often a call builds, in percent. */
    private final int building;
    /** How likely a class has no parameter, in percent. */
    private final int plain;
    private final int classes;
    private boolean isWrong;

    private ModelTest(long seed) {
        random = new Random(seed);
        wild = random.nextInt(3) * 6;
        building = 30 + random.nextInt(40);
        plain = random.nextInt(100);
        classes = 3 + random.nextInt(15);
    }

    public static void main(String[] arguments) {
        int circles = 0;
        int deepest = 0;
        for (int seed = 0; seed < RUNS && wrong < 5; seed++) {
            ModelTest run = new ModelTest(seed);
            run.play(seed);
            circles += run.model.circles;
            deepest = Math.max(deepest, run.model.deepest);
        }
        reached(circles > 100, "comparisons that come back to themselves");
        reached(deepest > 6, "types that are needed and deeper than nodes");
        for (String answer : new String[] {"look a", "look g", "look n", "used 4", "used 7", "missing -1",
            "isBelow true", "isBelow false", "extend UnsupportedOperationException", "call UnsupportedOperationException",
            "callAnew UnsupportedOperationException", "lay IllegalStateException", "give IllegalStateException"}) {
            reached(SEEN.containsKey(answer), answer);
        }
        if (arguments.length > 0) {
            SEEN.forEach((answer, times) -> System.out.println(answer + ": " + times));
        }
        System.out.println(RUNS + " runs against the model, " + wrong + " wrong");
        if (wrong > 0) {
            System.exit(1);
        }
    }

    private static void reached(boolean isReached, String what) {
        if (!isReached) {
            wrong++;
            System.out.println("the runs never reach: " + what);
        }
    }

    private void play(long seed) {
        for (int call = 0; call < CALLS && !isWrong; call++) {
            if (call < classes || random.nextInt(100) < 1) {
                addClass();
            } else if (random.nextInt(100) < (call < 160 ? 90 : building / 6)) {
                build();
            } else {
                query();
            }
        }
        if (isWrong) {
            wrong++;
            System.out.println("seed " + seed + ": " + String.join("; ", told));
        }
    }

    private void ask(String call, int... arguments) {
        String due = model.ask(call, arguments);
        String got = program.ask(call, arguments);
        StringBuilder line = new StringBuilder(call);
        for (int argument : arguments) {
            line.append(' ').append(argument);
        }
        told.add(line + " = " + got);
        if (!due.equals(got)) {
            isWrong = true;
            told.add("due is " + due);
        }
        SEEN.merge(call + " " + due, 1, Integer::sum);
    }

    private boolean isWild() {
        return random.nextInt(100) < wild;
    }

    private int any(int lowest, int count) {
        if (isWild()) {
            int[] far = {-3, -2, -1, count, count + 1, 100, -100, Integer.MIN_VALUE, Integer.MAX_VALUE};
            return far[random.nextInt(far.length)];
        }
        return count <= lowest ? lowest : lowest + random.nextInt(count - lowest);
    }

    private int cls() {
        return any(0, model.sorts.size());
    }

    private int node() {
        return any(0, model.nodes.size());
    }

    private int closedNode() {
        for (int time = 0; time < 5; time++) {
            int node = node();
            if (node >= 0 && node < model.nodes.size() && model.nodes.get(node).isClosed()) {
                return node;
            }
        }
        return node();
    }

    private char letter(String letters) {
        return isWild() ? (char) random.nextInt(130) : letters.charAt(random.nextInt(letters.length()));
    }

    private void addClass() {
        char variance = random.nextInt(100) < plain ? '0' : letter("+-=");
        ask("addClass", letter("tcc"), variance, random.nextInt(2));
    }

    private void build() {
        int which = random.nextInt(100);
        if (which < 25) {
            extend();
        } else if (which < 50) {
            lay();
        } else if (which < 65) {
            ask("define", cls(), any(0, 8), letter("avvssoo"), any(0, 100), any(0, 8));
        } else if (which < 75) {
            ask("defineField", cls(), any(0, 8), any(0, 100), any(-1, 8));
        } else if (which < 83) {
            ask("openScope", any(-1, model.scopes.size()));
        } else {
            giveSome();
        }
    }

    private void extend() {
        int type = cls();
        int parent = random.nextInt(10) == 0 ? cls() : any(0, type);
        boolean hasParameter = parent >= 0 && parent < model.sorts.size() && model.sorts.get(parent).hasParameter();
        int argument = hasParameter ? random.nextInt(2) == 0 ? -2 : closedNode() : -1;
        ask("extend", type, parent, random.nextInt(20) == 0 ? random.nextInt(4) - 3 : argument);
    }

    private void lay() {
        if (random.nextInt(12) == 0) {
            ask("variable");
            return;
        }
        int type = cls();
        boolean hasParameter = type >= 0 && type < model.sorts.size() && model.sorts.get(type).hasParameter();
        ask("lay", type, random.nextInt(20) == 0 ? any(-2, 3) : hasParameter ? node() : -1);
    }

    private void giveSome() {
        boolean isBeside = random.nextInt(3) == 0;
        int first = random.nextInt(3) == 0 ? -1 : node();
        int second = random.nextInt(3) > 0 ? -1 : node();
        ask(isBeside ? "giveBeside" : "give", isBeside ? cls() : any(0, model.scopes.size()), node(), first, second);
    }

    private void query() {
        String call = QUERIES[random.nextInt(QUERIES.length)];
        switch (call) {
            case "lineSize": case "isAdmitted": case "leaves": ask(call, cls()); break;
            case "lineAt": ask(call, cls(), any(0, 6)); break;
            case "number": ask(call, node()); break;
            case "base": ask(call, closedNode(), cls()); break;
            case "isBelow": ask(call, closedNode(), closedNode()); break;
            case "call": case "callAnew": case "definer": case "fieldOf": ask(call, cls(), any(0, 8)); break;
            case "look": case "find": case "findAnew": case "used":
                ask(call, any(0, model.scopes.size()), closedNode());
                break;
            case "missing": case "needless": ask(call, cls(), cases()); break;
            default: ask(call);
        }
    }

    private int cases() {
        if (isWild()) {
            return any(0, 65536);
        }
        int all = (1 << model.sorts.size()) - 1;
        return random.nextInt(65536) & random.nextInt(65536) & (random.nextInt(20) == 0 ? 65535 : all);
    }
}
