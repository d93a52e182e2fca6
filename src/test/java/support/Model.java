import java.util.ArrayList;
import java.util.HashSet;
import java.util.LinkedHashSet;
import java.util.List;
import java.util.NoSuchElementException;
import java.util.Set;
import java.util.TreeMap;
import java.util.function.IntPredicate;

/** The document told again, as directly as it can be: all is found anew, but for the lines. */
final class Model implements Guild {
    /** A type: class -1 is the variable. */
    record Type(int cls, Type argument) {
        boolean isClosed() { return cls >= 0 && (argument == null || argument.isClosed()); }
        int depth() { return 1 + (argument == null ? 0 : argument.depth()); }
        long number() {
            if (cls < 0) { return 1; }
            return argument == null ? 2 + cls : (31L * (2 + cls) + argument.number()) % 1000003;
        }
        Type put(Type type) {
            if (cls < 0) { return type; }
            return argument == null ? this : new Type(cls, argument.put(type));
        }
        /** The type to put for the variable so that this one becomes the other, or null. */
        Type putFor(Type other) {
            if (cls < 0) { return other; }
            if (other == null || cls != other.cls || argument == null) { return null; }
            return argument.putFor(other.argument);
        }
    }

    record Parent(int cls, Type argument) { }
    record Method(char kind, int number, int other) { }
    record Field(int number, int other) { }
    record Given(int scope, int beside, Type result, List<Type> needs) { }
    record Asked(Type type, Type other) { }

    static final class Sort {
        char kind;
        char variance;
        boolean isSealed;
        final List<Parent> parents = new ArrayList<>();
        final TreeMap<Integer, Method> methods = new TreeMap<>();
        final TreeMap<Integer, Field> fields = new TreeMap<>();
        boolean hasParameter() { return variance != '0'; }
    }

    static final Type VARIABLE = new Type(-1, null);

    final List<Sort> sorts = new ArrayList<>();
    final List<Type> nodes = new ArrayList<>();
    final List<Integer> scopes = new ArrayList<>();
    final List<Given> givens = new ArrayList<>();
    private final TreeMap<Integer, List<Integer>> lines = new TreeMap<>();
    long compared;
    /** For the tests that ask whether a run reached a thing. */
    int circles;
    int deepest;

    @Override
    public String ask(String call, int... a) {
        try {
            return answer(call, a);
        } catch (IllegalArgumentException | IllegalStateException | IndexOutOfBoundsException
                | NoSuchElementException | UnsupportedOperationException | ArithmeticException e) {
            if (!"due".equals(e.getMessage())) { throw e; }
            return e.getClass().getSimpleName();
        }
    }

    private String answer(String call, int... a) {
        switch (call) {
            case "addClass": return "" + addClass((char) a[0], (char) a[1], a[2] != 0);
            case "extend": return "" + extend(a[0], a[1], a[2]);
            case "lineSize": cls(a[0]); return "" + line(a[0]).size();
            case "lineAt": cls(a[0]); element(a[1] >= 0 && a[1] < line(a[0]).size()); return "" + line(a[0]).get(a[1]);
            case "variable": state(nodes.size() < 120); nodes.add(VARIABLE); return "" + (nodes.size() - 1);
            case "lay": return "" + lay(a[0], a[1]);
            case "number": node(a[0]); return "" + nodes.get(a[0]).number();
            case "base": return "" + base(a[0], a[1]);
            case "isBelow": return "" + isBelow(a[0], a[1]);
            case "define": return "" + define(a[0], a[1], (char) a[2], a[3], a[4]);
            case "defineField": return "" + defineField(a[0], a[1], a[2], a[3]);
            case "isAdmitted": cls(a[0]); return "" + admitted(a[0]);
            case "call": case "callAnew": return "" + call(a[0], a[1]);
            case "definer": return "" + definer(a[0], a[1]);
            case "fieldOf": return "" + fieldOf(a[0], a[1]);
            case "openScope": return "" + openScope(a[0]);
            case "give": index(a[0] >= 0 && a[0] < scopes.size()); return "" + given(a[0], -1, a[1], a[2], a[3]);
            case "giveBeside": cls(a[0]); return "" + given(-1, a[0], a[1], a[2], a[3]);
            case "look": return "" + look(a[0], a[1]);
            case "find": case "findAnew": return "" + find(a[0], a[1]);
            case "used": find(a[0], a[1]); return "" + used(a[0], nodes.get(a[1]), 0);
            case "leaves": cls(a[0]); supported(sorts.get(a[0]).isSealed); return "" + leaves(a[0]).size();
            case "missing": return "" + missing(a[0], a[1]);
            case "needless": return "" + needless(a[0], a[1]);
            case "compared": return "" + compared;
            case "admittedShare": return "" + admittedShare();
            case "meanLine": return "" + meanLine();
            case "isSound": return "true";
            default: throw new Error("no such call: " + call);
        }
    }

    // Exceptions of the document carry the text "due", so that faults of the model show themselves.

    private static void argument(boolean isFine) { if (!isFine) { throw new IllegalArgumentException("due"); } }
    private static void state(boolean isFine) { if (!isFine) { throw new IllegalStateException("due"); } }
    private static void index(boolean isFine) { if (!isFine) { throw new IndexOutOfBoundsException("due"); } }
    private static void element(boolean isFine) { if (!isFine) { throw new NoSuchElementException("due"); } }
    private static void supported(boolean isFine) { if (!isFine) { throw new UnsupportedOperationException("due"); } }
    private static void arithmetic(boolean isFine) { if (!isFine) { throw new ArithmeticException("due"); } }

    private void cls(int type) { index(type >= 0 && type < sorts.size()); }
    private void node(int node) { element(node >= 0 && node < nodes.size()); }

    // Classes and lines

    private int addClass(char kind, char variance, boolean isSealed) {
        argument("tc".indexOf(kind) >= 0 && "+-=0".indexOf(variance) >= 0);
        state(sorts.size() < 16);
        Sort sort = new Sort();
        sort.kind = kind;
        sort.variance = variance;
        sort.isSealed = isSealed;
        sorts.add(sort);
        return sorts.size() - 1;
    }

    private int extend(int type, int parent, int argument) {
        cls(type);
        cls(parent);
        if (argument != -1 && argument != -2) { node(argument); }
        Sort sort = sorts.get(type);
        Sort above = sorts.get(parent);
        argument(parent < type);
        argument(above.hasParameter() ? argument != -1 : argument == -1);
        argument(argument != -2 || sort.hasParameter());
        argument(argument < 0 || nodes.get(argument).isClosed());
        state(sort.parents.size() < 3);
        state(sort.parents.stream().noneMatch(p -> p.cls == parent));
        state(sorts.stream().noneMatch(s -> s.parents.stream().anyMatch(p -> p.cls == type)));
        supported(argument != -2 || sort.variance == '=' || sort.variance == above.variance);
        sort.parents.add(new Parent(parent, argument == -1 ? null : argument == -2 ? VARIABLE : nodes.get(argument)));
        lines.clear();
        Type whole = new Type(type, sort.hasParameter() ? VARIABLE : null);
        for (int one : line(type)) {
            if (bases(whole, one).size() > 1) {
                sort.parents.remove(sort.parents.size() - 1);
                lines.clear();
                supported(false);
            }
        }
        return line(type).size();
    }

    /** Kept until a class gets a parent: without that, dense parents would take too long. */
    private List<Integer> line(int type) {
        List<Integer> known = lines.get(type);
        if (known == null) {
            known = List.copyOf(lineAnew(type));
            lines.put(type, known);
        }
        return known;
    }

    private List<Integer> lineAnew(int type) {
        List<Integer> row = new ArrayList<>();
        for (Parent parent : sorts.get(type).parents) {
            List<Integer> ahead = new ArrayList<>(line(parent.cls));
            ahead.removeAll(row);
            row.addAll(0, ahead);
        }
        row.add(0, type);
        return row;
    }

    // Types

    private int lay(int type, int argument) {
        cls(type);
        if (argument != -1) { node(argument); }
        argument(sorts.get(type).hasParameter() == (argument != -1));
        state(nodes.size() < 120);
        Type fresh = new Type(type, argument == -1 ? null : nodes.get(argument));
        state(fresh.depth() <= 6);
        nodes.add(fresh);
        return nodes.size() - 1;
    }

    private Set<Type> bases(Type type, int at) {
        Set<Type> all = new LinkedHashSet<>();
        if (type.cls == at) {
            all.add(type);
            return all;
        }
        for (Parent parent : sorts.get(type.cls).parents) {
            if (line(parent.cls).contains(at)) {
                Type argument = parent.argument == null ? null
                        : parent.argument.equals(VARIABLE) ? type.argument : parent.argument;
                all.addAll(bases(new Type(parent.cls, argument), at));
            }
        }
        return all;
    }

    private long base(int node, int type) {
        node(node);
        cls(type);
        argument(nodes.get(node).isClosed());
        supported(line(nodes.get(node).cls).contains(type));
        Set<Type> all = bases(nodes.get(node), type);
        if (all.size() != 1) { throw new Error("unlike bases"); }
        return all.iterator().next().number();
    }

    private boolean isBelow(int node, int other) {
        node(node);
        node(other);
        argument(nodes.get(node).isClosed() && nodes.get(other).isClosed());
        compared++;
        return below(nodes.get(node), nodes.get(other), new HashSet<>());
    }

    private boolean below(Type type, Type other, Set<Asked> open) {
        if (!open.add(new Asked(type, other))) {
            circles++;
            return true;
        }
        if (!line(type.cls).contains(other.cls)) { return false; }
        Type at = bases(type, other.cls).iterator().next();
        switch (sorts.get(other.cls).variance) {
            case '+': return below(at.argument, other.argument, open);
            case '-': return below(other.argument, at.argument, open);
            case '=': return at.argument.equals(other.argument);
            default: return true;
        }
    }

    // Members

    private int define(int type, int method, char kind, int number, int other) {
        cls(type);
        argument(method >= 0 && method <= 7 && "avso".indexOf(kind) >= 0);
        argument(kind == 'a' || number >= 0 && number <= 99);
        argument(kind != 'o' || other >= 0 && other <= 7);
        sorts.get(type).methods.put(method, new Method(kind, number, other));
        return sorts.get(type).methods.size();
    }

    private int defineField(int type, int field, int number, int other) {
        cls(type);
        argument(field >= 0 && field <= 7 && number >= 0 && number <= 99 && other >= -1 && other <= 7);
        sorts.get(type).fields.put(field, new Field(number, other));
        return sorts.get(type).fields.size();
    }

    private int place(List<Integer> line, int method, int from) {
        for (int at = from; at < line.size(); at++) {
            Method one = sorts.get(line.get(at)).methods.get(method);
            if (one != null && one.kind != 'a') { return at; }
        }
        return -1;
    }

    private boolean admitted(int type) {
        if (sorts.get(type).kind != 'c') { return false; }
        List<Integer> line = line(type);
        for (int at = 0; at < line.size(); at++) {
            for (int method : sorts.get(line.get(at)).methods.keySet()) {
                Method one = sorts.get(line.get(at)).methods.get(method);
                if (place(line, method, 0) < 0) { return false; }
                if (one.kind == 's' && place(line, method, at + 1) < 0) { return false; }
                if (one.kind == 'o' && place(line, one.other, 0) < 0) { return false; }
            }
        }
        return true;
    }

    private int call(int type, int method) {
        cls(type);
        argument(method >= 0 && method <= 7);
        state(admitted(type));
        element(line(type).stream().anyMatch(c -> sorts.get(c).methods.containsKey(method)));
        return gives(line(type), method, 0, 1);
    }

    private int gives(List<Integer> line, int method, int from, int gone) {
        supported(gone <= 30);
        int place = place(line, method, from);
        Method one = sorts.get(line.get(place)).methods.get(method);
        if (one.kind == 'v') { return one.number; }
        if (one.kind == 's') { return one.number + gives(line, method, place + 1, gone + 1); }
        return one.number + gives(line, one.other, 0, gone + 1);
    }

    private int definer(int type, int method) {
        cls(type);
        argument(method >= 0 && method <= 7);
        int place = place(line(type), method, 0);
        element(place >= 0);
        return line(type).get(place);
    }

    private int fieldOf(int type, int field) {
        cls(type);
        argument(field >= 0 && field <= 7);
        element(line(type).stream().anyMatch(c -> sorts.get(c).fields.containsKey(field)));
        int[] values = new int[8];
        List<Integer> line = line(type);
        for (int at = line.size() - 1; at >= 0; at--) {
            sorts.get(line.get(at)).fields.forEach((which, one) ->
                    values[which] = one.number + (one.other < 0 ? 0 : values[one.other]));
        }
        return values[field];
    }

    // Scopes and givens

    private int openScope(int around) {
        index(around >= -1 && around < scopes.size());
        state(scopes.size() < 5);
        scopes.add(around);
        return scopes.size() - 1;
    }

    private int given(int scope, int beside, int result, int first, int second) {
        node(result);
        List<Type> needs = new ArrayList<>();
        for (int need : new int[] {first, second}) {
            if (need != -1) {
                node(need);
                needs.add(nodes.get(need));
            }
        }
        Type type = nodes.get(result);
        argument(!type.equals(VARIABLE));
        argument(!type.isClosed() || needs.stream().allMatch(Type::isClosed));
        state(givens.size() < 10);
        givens.add(new Given(scope, beside, type, needs));
        return givens.size() - 1;
    }

    /** The needs of a given for a type, or null if it does not fit. */
    private List<Type> needs(Given given, Type type) {
        if (given.result.isClosed()) {
            return below(given.result, type, new HashSet<>()) ? given.needs : null;
        }
        Type put = given.result.putFor(type);
        return put == null ? null : given.needs.stream().map(need -> need.put(put)).toList();
    }

    /** The given that is found, -1 for none, -2 for an ambiguous type. */
    private int search(int scope, Type type, int depth) {
        if (depth == 3) { return -1; }
        deepest = Math.max(deepest, type.depth());
        List<IntPredicate> levels = new ArrayList<>();
        for (int at = scope; at >= 0; at = scopes.get(at)) {
            int here = at;
            levels.add(given -> givens.get(given).scope == here);
        }
        Set<Integer> companions = new HashSet<>();
        for (Type part = type; part != null; part = part.argument) { companions.addAll(line(part.cls)); }
        levels.add(given -> companions.contains(givens.get(given).beside));
        for (IntPredicate level : levels) {
            List<Integer> counting = new ArrayList<>();
            for (int given = 0; given < givens.size(); given++) {
                if (level.test(given) && counts(givens.get(given), scope, type, depth)) { counting.add(given); }
            }
            if (!counting.isEmpty()) {
                if (counting.size() > 1) { counting.removeIf(given -> !givens.get(given).result.isClosed()); }
                return counting.size() == 1 ? counting.get(0) : -2;
            }
        }
        return -1;
    }

    private boolean counts(Given given, int scope, Type type, int depth) {
        List<Type> needs = needs(given, type);
        return needs != null && needs.stream().allMatch(need -> search(scope, need, depth + 1) >= 0);
    }

    private int found(int scope, int node) {
        index(scope >= 0 && scope < scopes.size());
        node(node);
        argument(nodes.get(node).isClosed());
        return search(scope, nodes.get(node), 0);
    }

    private char look(int scope, int node) {
        int found = found(scope, node);
        return found == -2 ? 'a' : found == -1 ? 'n' : 'g';
    }

    private int find(int scope, int node) {
        int found = found(scope, node);
        supported(found >= 0);
        return found;
    }

    private int used(int scope, Type type, int depth) {
        Given given = givens.get(search(scope, type, depth));
        return 1 + needs(given, type).stream().mapToInt(need -> used(scope, need, depth + 1)).sum();
    }

    // Matches and figures

    private List<Integer> leaves(int type) {
        List<Integer> all = new ArrayList<>();
        for (int one = 0; one < sorts.size(); one++) {
            if (sorts.get(one).kind == 'c' && line(one).contains(type)) { all.add(one); }
        }
        return all;
    }

    private List<Integer> cases(int type, int cases) {
        cls(type);
        argument(cases >= 0 && cases <= 65535);
        List<Integer> all = new ArrayList<>();
        for (int one = 0; one < 16; one++) {
            if ((cases & 1 << one) != 0) {
                argument(one < sorts.size());
                all.add(one);
            }
        }
        supported(sorts.get(type).isSealed);
        return all;
    }

    private int missing(int type, int told) {
        List<Integer> cases = cases(type, told);
        return leaves(type).stream().filter(leaf -> cases.stream().noneMatch(line(leaf)::contains))
                .findFirst().orElse(-1);
    }

    private int needless(int type, int told) {
        List<Integer> cases = cases(type, told);
        List<Integer> left = leaves(type);
        int idle = 0;
        for (int one : cases) {
            if (!left.removeIf(leaf -> line(leaf).contains(one))) { idle++; }
        }
        return idle;
    }

    private float admittedShare() {
        arithmetic(!sorts.isEmpty());
        int admitted = 0;
        for (int type = 0; type < sorts.size(); type++) { admitted += admitted(type) ? 1 : 0; }
        return (float) admitted / (float) sorts.size();
    }

    private double meanLine() {
        arithmetic(!sorts.isEmpty());
        int sum = 0;
        for (int type = 0; type < sorts.size(); type++) { sum += line(type).size(); }
        return (double) sum / (double) sorts.size();
    }
}
