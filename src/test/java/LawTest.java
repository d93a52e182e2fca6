import java.util.ArrayList;
import java.util.Collections;
import java.util.List;
import java.util.Random;
import java.util.TreeSet;

/**
 * What the document says of all guilds at once, asked of random ones without a model: each law
 * compares answers of the program with one another.
 */
public final class LawTest {
    private static final int GUILDS = 600;
    private static final int SCOPES = 4;

    private static int asked = 0;
    private static int wrong = 0;
    private static int givensFound = 0;
    private static int callsEnded = 0;
    private static int endless = 0;

    private final Random random;
    private final long seed;
    /** What builds the guild: it is built again for each law, as an object is used for 512 calls at most. */
    private final List<String> told = new ArrayList<>();
    private final List<String> givens = new ArrayList<>();
    private final List<Character> sorts = new ArrayList<>();
    private final List<String> variances = new ArrayList<>();
    private final List<Boolean> closed = new ArrayList<>();
    private final List<List<int[]>> parents = new ArrayList<>();
    private final boolean[][] defined = new boolean[16][8];
    private final char[][] kinds = new char[16][8];
    private final int[][] numbers = new int[16][8];
    private final int[][] others = new int[16][8];
    private final List<Integer> arguments = new ArrayList<>();
    private final List<Integer> classesOf = new ArrayList<>();
    private Guild guild;
    private int used;

    private LawTest(long seed) {
        this.seed = seed;
        random = new Random(seed * 7919 + 13);
    }

    public static void main(String[] arguments) {
        for (long seed = 0; seed < GUILDS && wrong < 10; seed++) {
            LawTest law = new LawTest(seed);
            law.build();
            law.lines();
            law.members();
            law.types();
            law.finding();
            law.order();
            law.matches();
        }
        due(givensFound > 500 && callsEnded > 500 && endless > 100, -1,
            "too little is reached: " + givensFound + " givens, " + callsEnded + " calls, " + endless + " without an end");
        System.out.println("LawTest: " + asked + " laws asked, " + wrong + " wrong");
        if (wrong > 0) {
            System.exit(1);
        }
    }

    private static void due(boolean isFine, long seed, String what) {
        asked++;
        if (!isFine) {
            wrong++;
            System.out.println("seed " + seed + ": " + what);
        }
    }

    private void due(boolean isFine, String what) {
        due(isFine, seed, what);
    }

    private String ask(String line) {
        if (used >= 512) {
            renew();
        }
        used++;
        return Script.ask(guild, line);
    }

    private int number(String line) {
        return Integer.parseInt(ask(line));
    }

    private void renew() {
        guild = new Program();
        used = 0;
        for (String line : told) {
            used++;
            Script.ask(guild, line);
        }
        for (String line : givens) {
            used++;
            Script.ask(guild, line);
        }
    }

    private static boolean isRefused(String answer) {
        return answer.endsWith("Exception");
    }

    // A random guild

    private void build() {
        guild = new Program();
        int classes = 3 + random.nextInt(9);
        for (int type = 0; type < classes; type++) {
            String variance = random.nextInt(3) == 0 ? "0" : "" + "+-=".charAt(random.nextInt(3));
            sorts.add("tcc".charAt(random.nextInt(3)));
            variances.add(variance);
            parents.add(new ArrayList<>());
            tell("addClass " + sorts.get(type) + " " + variance + " " + (random.nextInt(2) == 0));
        }
        tell("variable");
        node(-1, -1);
        for (int time = 0; time < 15; time++) {
            layOne();
        }
        for (int type = 1; type < classes; type++) {
            for (int time = random.nextInt(4); time > 0; time--) {
                extendOne(type);
            }
        }
        for (int time = 0; time < 8; time++) {
            layOne();
        }
        for (int time = random.nextInt(20); time > 0; time--) {
            defineOne();
        }
        for (int scope = 0; scope < SCOPES; scope++) {
            tell("openScope " + (random.nextInt(scope + 1) - 1));
        }
        for (int time = random.nextInt(12); time > 0; time--) {
            giveOne();
        }
        renew();
    }

    private String tell(String line) {
        String answer = Script.ask(guild, line);
        if (!isRefused(answer)) {
            told.add(line);
        }
        return answer;
    }

    private void node(int type, int argument) {
        classesOf.add(type);
        arguments.add(argument);
        closed.add(type >= 0 && (argument < 0 || closed.get(argument)));
    }

    private void layOne() {
        int type = random.nextInt(variances.size());
        int argument = variances.get(type).equals("0") ? -1 : random.nextInt(closed.size());
        if (!isRefused(tell("lay " + type + " " + argument))) {
            node(type, argument);
        }
    }

    private int closedNode() {
        for (int time = 0; time < 20; time++) {
            int node = random.nextInt(closed.size());
            if (closed.get(node)) {
                return node;
            }
        }
        return -1;
    }

    /** Behind an accepted parent, the line is the one that the document tells from the one before. */
    private void extendOne(int type) {
        int parent = random.nextInt(type);
        int argument = variances.get(parent).equals("0") ? -1
            : !variances.get(type).equals("0") && random.nextInt(3) > 0 ? -2 : closedNode();
        List<Integer> row = line(type);
        if (isRefused(tell("extend " + type + " " + parent + " " + argument))) {
            due(row.equals(line(type)), "a refused parent changes the line of " + type);
            return;
        }
        parents.get(type).add(new int[] {parent, argument});
        row.remove(0);
        List<Integer> whole = new ArrayList<>(line(parent));
        whole.removeAll(row);
        whole.addAll(row);
        whole.add(0, type);
        due(whole.equals(line(type)), "the line of " + type + " is " + line(type) + ", due is " + whole);
    }

    private void defineOne() {
        int type = random.nextInt(variances.size());
        int method = random.nextInt(8);
        char kind = "avvsoo".charAt(random.nextInt(6));
        int number = random.nextInt(100);
        int other = random.nextInt(8);
        tell("define " + type + " " + method + " " + kind + " " + number + " " + other);
        defined[type][method] = true;
        kinds[type][method] = kind;
        numbers[type][method] = number;
        others[type][method] = other;
    }

    private void giveOne() {
        boolean isBeside = random.nextInt(3) == 0;
        int first = random.nextInt(2) == 0 ? -1 : random.nextInt(closed.size());
        int second = random.nextInt(3) > 0 ? -1 : random.nextInt(closed.size());
        String line = (isBeside ? "giveBeside " + random.nextInt(variances.size()) : "give " + random.nextInt(SCOPES - 1))
            + " " + random.nextInt(closed.size()) + " " + first + " " + second;
        if (!isRefused(Script.ask(guild, line))) {
            givens.add(line);
        }
    }

    private List<Integer> line(int type) {
        List<Integer> line = new ArrayList<>();
        int size = Integer.parseInt(Script.ask(guild, "lineSize " + type));
        for (int place = 0; place < size; place++) {
            line.add(Integer.parseInt(Script.ask(guild, "lineAt " + type + " " + place)));
        }
        used += size + 1;
        return line;
    }

    private List<Integer> lineOf(int type) {
        renew();
        return line(type);
    }

    // The laws

    /** Each line has each class once and ahead of its parents, and holds what parents lead to. */
    private void lines() {
        int sum = 0;
        for (int type = 0; type < variances.size(); type++) {
            List<Integer> line = lineOf(type);
            sum += line.size();
            TreeSet<Integer> reached = new TreeSet<>(List.of(type));
            for (int one = type; one >= 0; one--) {
                if (reached.contains(one)) {
                    for (int[] parent : parents.get(one)) {
                        reached.add(parent[0]);
                        due(line.indexOf(one) < line.indexOf(parent[0]), one + " is not ahead of " + parent[0]);
                    }
                }
            }
            due(line.get(0) == type && line.size() == reached.size() && reached.containsAll(line),
                "the line of " + type + " is " + line + ", reached are " + reached);
        }
        due(ask("meanLine").equals("" + (double) sum / (double) variances.size()), "meanLine");
        due(ask("isSound").equals("true"), "isSound");
    }

    private void members() {
        int admitted = 0;
        for (int type = 0; type < variances.size(); type++) {
            List<Integer> line = lineOf(type);
            boolean isAdmitted = ask("isAdmitted " + type).equals("true");
            admitted += isAdmitted ? 1 : 0;
            for (int method = 0; method < 8; method++) {
                String place = " " + type + " " + method;
                String got = ask("call" + place);
                due(got.equals(ask("callAnew" + place)), "callAnew" + place);
                int at = method;
                boolean isDefined = line.stream().anyMatch(one -> defined[one][at]);
                due(isAdmitted != got.equals("IllegalStateException"), "who is admitted is called:" + place);
                due(!isAdmitted || isDefined != got.equals("NoSuchElementException"), "what is defined is found:" + place);
                first(line, type, method, got);
            }
        }
        due(ask("admittedShare").equals("" + (float) admitted / (float) variances.size()), "admittedShare");
    }

    /** What a call gives by the definition that it begins with. */
    private void first(List<Integer> line, int type, int method, String got) {
        String definer = ask("definer " + type + " " + method);
        String due = "NoSuchElementException";
        for (int one : line) {
            if (defined[one][method] && kinds[one][method] != 'a') {
                due = "" + one;
                break;
            }
        }
        due(definer.equals(due), "definer " + type + " " + method + " is " + definer + ", due is " + due);
        if (isRefused(definer) || got.equals("IllegalStateException")) {
            return;
        }
        int from = Integer.parseInt(definer);
        endless += isRefused(got) ? 1 : 0;
        callsEnded += isRefused(got) ? 0 : 1;
        if (kinds[from][method] == 'v') {
            due(got.equals("" + numbers[from][method]), "call " + type + " " + method + " of 'v'");
        } else if (kinds[from][method] == 'o' && !isRefused(got)) {
            int rest = number("call " + type + " " + others[from][method]);
            due(Integer.parseInt(got) == rest + numbers[from][method], "call " + type + " " + method + " of 'o'");
        } else if (kinds[from][method] == 'o') {
            String rest = ask("call " + type + " " + others[from][method]);
            // a call that ends goes into each definition once, and there are fewer than 30
            due(isRefused(rest), "call " + type + " " + method + " without an end");
        }
    }

    /** Bases go by way of each parent, a type is below its bases, and arguments fit by the variance. */
    private void types() {
        for (int node = 0; node < closed.size(); node++) {
            if (closed.get(node)) {
                int type = classesOf.get(node);
                due(ask("isBelow " + node + " " + node).equals("true"), node + " is not below itself");
                due(ask("base " + node + " " + type).equals(ask("number " + node)), "the base of " + node + " at itself");
                for (int[] parent : parents.get(type)) {
                    byParent(node, parent[0], parent[1] == -2 ? arguments.get(node) : parent[1]);
                }
                twin(node);
            }
        }
        for (int time = 0; time < 12; time++) {
            byVariance(closedNode(), closedNode());
        }
    }

    private void byParent(int node, int parent, int argument) {
        renew();
        String above = ask("lay " + parent + " " + argument);
        if (isRefused(above)) {
            return;
        }
        due(ask("base " + node + " " + parent).equals(ask("number " + above)), "base " + node + " " + parent);
        due(ask("isBelow " + node + " " + above).equals("true"), node + " is not below its base at " + parent);
        for (int type = 0; type < variances.size(); type++) {
            String there = ask("base " + above + " " + type);
            due(isRefused(there) || there.equals(ask("base " + node + " " + type)), "base " + node + " by " + parent);
        }
    }

    /** Another node with the same parts is the same type. */
    private void twin(int node) {
        renew();
        String twin = ask("lay " + classesOf.get(node) + " " + arguments.get(node));
        if (isRefused(twin)) {
            return;
        }
        for (int other = 0; other < closed.size(); other++) {
            due(ask("isBelow " + node + " " + other).equals(ask("isBelow " + twin + " " + other))
                && ask("isBelow " + other + " " + node).equals(ask("isBelow " + other + " " + twin)),
                "a twin of " + node + " compares in another way with " + other);
        }
        due(ask("find 0 " + node).equals(ask("find 0 " + twin)), "a twin of " + node + " is found in another way");
    }

    private void byVariance(int node, int other) {
        if (node < 0 || other < 0) {
            return;
        }
        renew();
        String below = ask("isBelow " + node + " " + other);
        String above = ask("isBelow " + other + " " + node);
        for (int type = 0; type < variances.size(); type++) {
            String first = ask("lay " + type + " " + node);
            String second = ask("lay " + type + " " + other);
            if (!isRefused(first) && !isRefused(second)) {
                String got = ask("isBelow " + first + " " + second);
                switch (variances.get(type)) {
                    case "+": due(got.equals(below), "'+' around " + node + " and " + other); break;
                    case "-": due(got.equals(above), "'-' around " + node + " and " + other); break;
                    default: due(got.equals("" + isSame(node, other)), "'=' around " + node + " and " + other); break;
                }
            }
        }
    }

    private boolean isSame(int node, int other) {
        return node == other || node >= 0 && other >= 0 && classesOf.get(node).equals(classesOf.get(other))
            && isSame(arguments.get(node), arguments.get(other));
    }

    /** The calls that find agree, and a scope in which nothing stands finds what is found around it. */
    private void finding() {
        renew();
        for (int scope = 0; scope < SCOPES; scope++) {
            for (int node = 0; node < closed.size(); node++) {
                String place = " " + scope + " " + node;
                String look = ask("look" + place);
                String find = ask("find" + place);
                String used = ask("used" + place);
                due(find.equals(ask("findAnew" + place)), "findAnew" + place);
                due(closed.get(node) ? look.equals("g") != isRefused(find) : look.equals("IllegalArgumentException"),
                    "look and find" + place);
                due(isRefused(used) == isRefused(find) && (isRefused(used) || used.matches("[1-7]")), "used" + place);
                givensFound += isRefused(find) ? 0 : 1;
            }
        }
        for (int node = 0; node < closed.size(); node++) {
            for (int scope = 0; scope < SCOPES; scope++) {
                if (used > 500) {
                    renew();
                }
                int inside = SCOPES;
                if (ask("openScope " + scope).equals("" + inside)) {
                    due(ask("look " + scope + " " + node).equals(ask("look " + inside + " " + node))
                        && ask("find " + scope + " " + node).equals(ask("find " + inside + " " + node))
                        && ask("used " + scope + " " + node).equals(ask("used " + inside + " " + node)),
                        "an empty scope in " + scope + " finds another one for " + node);
                }
                renew();
            }
        }
    }

    /** The same givens told in another order: the same ones are found, by their new numbers. */
    private void order() {
        List<Integer> order = new ArrayList<>();
        for (int given = 0; given < givens.size(); given++) {
            order.add(given);
        }
        Collections.shuffle(order, random);
        List<String> lines = List.copyOf(givens);
        List<String> before = answersOfFinding(null);
        givens.clear();
        order.forEach(given -> givens.add(lines.get(given)));
        List<String> behind = answersOfFinding(order);
        due(before.equals(behind), "another order of givens: " + before + " and " + behind);
        givens.clear();
        givens.addAll(lines);
    }

    private List<String> answersOfFinding(List<Integer> order) {
        renew();
        List<String> all = new ArrayList<>();
        for (int scope = 0; scope < SCOPES; scope++) {
            for (int node = 0; node < closed.size(); node++) {
                String place = " " + scope + " " + node;
                String find = ask("find" + place);
                all.add(order == null || isRefused(find) ? find : "" + order.get(Integer.parseInt(find)));
                all.add(ask("look" + place));
                all.add(ask("used" + place));
            }
        }
        return all;
    }

    /** What is left out and what is needless, by the lines of the classes. */
    private void matches() {
        List<List<Integer>> lines = new ArrayList<>();
        for (int type = 0; type < variances.size(); type++) {
            lines.add(lineOf(type));
        }
        int all = (1 << variances.size()) - 1;
        for (int type = 0; type < variances.size(); type++) {
            renew();
            if (isRefused(ask("leaves " + type))) {
                continue;
            }
            int root = type;
            List<Integer> leaves = new ArrayList<>();
            for (int one = 0; one < lines.size(); one++) {
                if (sorts.get(one) == 'c' && lines.get(one).contains(root)) {
                    leaves.add(one);
                }
            }
            due(number("leaves " + type) == leaves.size(), "leaves of " + type);
            due(number("missing " + type + " " + (1 << type)) == -1, "its own case leaves something out of " + type);
            due(number("missing " + type + " " + all) == -1, "all cases leave something out of " + type);
            for (int time = 0; time < 5; time++) {
                byCases(lines, new ArrayList<>(leaves), type, random.nextInt(all + 1) & random.nextInt(all + 1));
            }
        }
    }

    private void byCases(List<List<Integer>> lines, List<Integer> left, int type, int cases) {
        int needless = 0;
        for (int one = 0; one < lines.size(); one++) {
            int taking = one;
            if ((cases >> one & 1) != 0 && !left.removeIf(leaf -> lines.get(leaf).contains(taking))) {
                needless++;
            }
        }
        due(number("missing " + type + " " + cases) == (left.isEmpty() ? -1 : left.get(0)), "missing " + type + " " + cases);
        due(number("needless " + type + " " + cases) == needless, "needless " + type + " " + cases);
    }
}
