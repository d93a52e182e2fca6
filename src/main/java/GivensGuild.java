import java.util.NoSuchElementException;

/**
 * A guild for a small language: classes and traits in one line of parents, methods and fields
 * along it, types with variance, givens in scopes and companions, and matches over sealed classes.
 */
public final class GivensGuild {
    private static final int MOST_CLASSES = 16;
    private static final int MOST_PARENTS = 3;
    private static final int MOST_NODES = 120;
    private static final int MOST_DEPTH = 6;
    private static final int MEMBERS = 8;
    private static final int MOST_NUMBER = 99;
    private static final int MOST_DEFINITIONS = 30;
    private static final int MOST_SCOPES = 5;
    private static final int MOST_GIVENS = 10;
    private static final int NEEDS = 2;
    private static final int MOST_NEEDS_DEEP = 3;
    private static final int MOST_CASES = 65535;

    private static final int NONE = -1;
    private static final int PARAMETER = -2;
    private static final int AMBIGUOUS = -2;
    private static final int NO_END = -1;

    private final Lines lines;
    private final Types types;
    private final Members members;
    private final Finder finder;
    private long comparisons;

    public GivensGuild() {
        lines = new Lines();
        types = new Types(lines);
        members = new Members(lines);
        finder = new Finder(lines, types);
    }

    // Classes and lines

    public int addClass(char kind, char variance, boolean isSealed)
            throws IllegalArgumentException, IllegalStateException {
        if (!isClassKind(kind) || !isVariance(variance)) {
            throw new IllegalArgumentException("no such kind or variance");
        }
        if (lines.count() >= MOST_CLASSES) {
            throw new IllegalStateException("there are 16 classes");
        }
        return lines.add(kind, variance, isSealed);
    }

    public int extend(int type, int parent, int argument)
            throws IndexOutOfBoundsException, NoSuchElementException, IllegalArgumentException,
            IllegalStateException, UnsupportedOperationException {
        checkClass(type);
        checkClass(parent);
        if (argument != NONE && argument != PARAMETER) {
            checkNode(argument);
        }
        if (parent >= type || !isArgumentFor(type, parent, argument)) {
            throw new IllegalArgumentException("no such parent with this argument");
        }
        if (!lines.isOpenFor(type, parent)) {
            throw new IllegalStateException("the class takes no such parent any more");
        }
        if (isAgainstVariance(type, parent, argument) || types.hasUnlikeBase(type, parent, argument)) {
            throw new UnsupportedOperationException("unlike bases, or another variance");
        }
        types.addBases(type, parent, argument);
        lines.addParent(type, parent);
        return lines.size(type);
    }

    public int lineSize(int type) throws IndexOutOfBoundsException {
        checkClass(type);
        return lines.size(type);
    }

    public int lineAt(int type, int place) throws IndexOutOfBoundsException, NoSuchElementException {
        checkClass(type);
        if (place < 0 || place >= lines.size(type)) {
            throw new NoSuchElementException("no such place");
        }
        return lines.row(type)[place];
    }

    // Types

    public int variable() throws IllegalStateException {
        if (types.isFull()) {
            throw new IllegalStateException("there are 120 nodes");
        }
        return types.addVariable();
    }

    public int lay(int type, int argument)
            throws IndexOutOfBoundsException, NoSuchElementException, IllegalArgumentException,
            IllegalStateException {
        checkClass(type);
        if (argument != NONE) {
            checkNode(argument);
        }
        if (lines.hasParameter(type) == (argument == NONE)) {
            throw new IllegalArgumentException("an argument is missing or too many");
        }
        if (types.isFull() || types.depthOf(argument) >= MOST_DEPTH) {
            throw new IllegalStateException("there are 120 nodes, or the depth is too great");
        }
        return types.add(type, argument);
    }

    public int number(int node) throws NoSuchElementException {
        checkNode(node);
        return types.numberOf(node);
    }

    public int base(int node, int type)
            throws NoSuchElementException, IndexOutOfBoundsException, IllegalArgumentException,
            UnsupportedOperationException {
        checkNode(node);
        checkClass(type);
        checkClosed(node);
        if (!lines.isInLine(type, types.classOf(node))) {
            throw new UnsupportedOperationException("the class is not in the line");
        }
        int argument = types.inherited(types.classOf(node), type, types.argumentOf(node));
        return types.numberWith(type, argument);
    }

    public boolean isBelow(int node, int other) throws NoSuchElementException, IllegalArgumentException {
        checkNode(node);
        checkNode(other);
        checkClosed(node);
        checkClosed(other);
        comparisons++;
        return types.fitsUnder(node, other);
    }

    // Members

    public int define(int type, int method, char kind, int number, int other)
            throws IndexOutOfBoundsException, IllegalArgumentException {
        checkClass(type);
        checkMember(method);
        if (!isMethodKind(kind)) {
            throw new IllegalArgumentException("no such kind");
        }
        if (kind != 'a') {
            checkNumber(number);
        }
        if (kind == 'o') {
            checkMember(other);
        }
        return members.setMethod(type, method, kind, number, other);
    }

    public int defineField(int type, int field, int number, int other)
            throws IndexOutOfBoundsException, IllegalArgumentException {
        checkClass(type);
        checkMember(field);
        checkNumber(number);
        if (other != NONE) {
            checkMember(other);
        }
        return members.setField(type, field, number, other);
    }

    public boolean isAdmitted(int type) throws IndexOutOfBoundsException {
        checkClass(type);
        return members.admits(type);
    }

    public int call(int type, int method)
            throws IndexOutOfBoundsException, IllegalArgumentException, IllegalStateException,
            NoSuchElementException, UnsupportedOperationException {
        checkCall(type, method);
        return ended(members.outcome(lines.row(type), lines.size(type), method));
    }

    public int callAnew(int type, int method)
            throws IndexOutOfBoundsException, IllegalArgumentException, IllegalStateException,
            NoSuchElementException, UnsupportedOperationException {
        checkCall(type, method);
        int size = lines.walkAnew(type);
        return ended(members.outcome(lines.walked(), size, method));
    }

    public int definer(int type, int method)
            throws IndexOutOfBoundsException, IllegalArgumentException, NoSuchElementException {
        checkClass(type);
        checkMember(method);
        int place = members.placeFrom(lines.row(type), lines.size(type), method, 0);
        if (place < 0) {
            throw new NoSuchElementException("no class of the line defines the method");
        }
        return lines.row(type)[place];
    }

    public int fieldOf(int type, int field)
            throws IndexOutOfBoundsException, IllegalArgumentException, NoSuchElementException {
        checkClass(type);
        checkMember(field);
        if (!members.hasField(type, field)) {
            throw new NoSuchElementException("no class of the line defines the field");
        }
        return members.fieldWhenMade(type, field);
    }

    // Scopes and givens

    public int openScope(int around) throws IndexOutOfBoundsException, IllegalStateException {
        if (around != NONE) {
            checkScope(around);
        }
        if (finder.scopeCount() >= MOST_SCOPES) {
            throw new IllegalStateException("there are 5 scopes");
        }
        return finder.addScope(around);
    }

    public int give(int scope, int result, int first, int second)
            throws IndexOutOfBoundsException, NoSuchElementException, IllegalArgumentException,
            IllegalStateException {
        checkScope(scope);
        checkGiven(result, first, second);
        return finder.addGiven(Finder.placeOfScope(scope), result, first, second);
    }

    public int giveBeside(int type, int result, int first, int second)
            throws IndexOutOfBoundsException, NoSuchElementException, IllegalArgumentException,
            IllegalStateException {
        checkClass(type);
        checkGiven(result, first, second);
        return finder.addGiven(Finder.placeBeside(type), result, first, second);
    }

    public char look(int scope, int node)
            throws IndexOutOfBoundsException, NoSuchElementException, IllegalArgumentException {
        checkAsked(scope, node);
        int found = finder.search(scope, node, false, 0);
        if (found == AMBIGUOUS) {
            return 'a';
        }
        return found == NONE ? 'n' : 'g';
    }

    public int find(int scope, int node)
            throws IndexOutOfBoundsException, NoSuchElementException, IllegalArgumentException,
            UnsupportedOperationException {
        checkAsked(scope, node);
        return found(finder.search(scope, node, false, 0));
    }

    public int findAnew(int scope, int node)
            throws IndexOutOfBoundsException, NoSuchElementException, IllegalArgumentException,
            UnsupportedOperationException {
        checkAsked(scope, node);
        return found(finder.search(scope, node, true, 0));
    }

    public int used(int scope, int node)
            throws IndexOutOfBoundsException, NoSuchElementException, IllegalArgumentException,
            UnsupportedOperationException {
        checkAsked(scope, node);
        found(finder.search(scope, node, false, 0));
        return Finder.countUsed(finder, scope, node, 0);
    }

    // Matches and figures

    public int leaves(int type) throws IndexOutOfBoundsException, UnsupportedOperationException {
        checkClass(type);
        checkSealed(type);
        return Integer.bitCount(lines.leafSet(type));
    }

    public int missing(int type, int cases)
            throws IndexOutOfBoundsException, IllegalArgumentException, UnsupportedOperationException {
        checkMatch(type, cases);
        int left = lines.leafSet(type);
        for (int one = 0; one < lines.count(); one++) {
            if (isIn(one, cases)) {
                left &= ~lines.heirs(one);
            }
        }
        for (int leaf = 0; leaf < lines.count(); leaf++) {
            if (isIn(leaf, left)) {
                return leaf;
            }
        }
        return NONE;
    }

    public int needless(int type, int cases)
            throws IndexOutOfBoundsException, IllegalArgumentException, UnsupportedOperationException {
        checkMatch(type, cases);
        int left = lines.leafSet(type);
        int idle = 0;
        for (int one = 0; one < lines.count(); one++) {
            if (isIn(one, cases)) {
                int taken = left & lines.heirs(one);
                if (taken == 0) {
                    idle++;
                }
                left &= ~taken;
            }
        }
        return idle;
    }

    public long compared() {
        return comparisons;
    }

    public float admittedShare() throws ArithmeticException {
        checkSomeClass();
        int admitted = 0;
        for (int type = 0; type < lines.count(); type++) {
            if (members.admits(type)) {
                admitted++;
            }
        }
        return (float) admitted / (float) lines.count();
    }

    public double meanLine() throws ArithmeticException {
        checkSomeClass();
        int sum = 0;
        for (int type = 0; type < lines.count(); type++) {
            sum += lines.size(type);
        }
        return (double) sum / (double) lines.count();
    }

    public boolean isSound() {
        for (int type = 0; type < lines.count(); type++) {
            if (!lines.isOrdered(type) || !members.isSteady(type)) {
                return false;
            }
        }
        return types.areBelowThemselves();
    }

    // What the calls ask of their arguments

    private void checkClass(int type) {
        if (!lines.isThere(type)) {
            throw new IndexOutOfBoundsException("no such class");
        }
    }

    private void checkNode(int node) {
        if (!types.isThere(node)) {
            throw new NoSuchElementException("no such node");
        }
    }

    private void checkClosed(int node) {
        if (!types.isClosed(node)) {
            throw new IllegalArgumentException("the type is not closed");
        }
    }

    private void checkMember(int member) {
        if (member < 0 || member >= MEMBERS) {
            throw new IllegalArgumentException("no such method or field");
        }
    }

    private void checkNumber(int number) {
        if (number < 0 || number > MOST_NUMBER) {
            throw new IllegalArgumentException("the number is out of range");
        }
    }

    private void checkCall(int type, int method) {
        checkClass(type);
        checkMember(method);
        if (!members.admits(type)) {
            throw new IllegalStateException("the class is not admitted");
        }
        if (members.placeFrom(lines.row(type), lines.size(type), method, 0) < 0) {
            throw new NoSuchElementException("the method is not defined");
        }
    }

    private void checkScope(int scope) {
        if (scope < 0 || scope >= finder.scopeCount()) {
            throw new IndexOutOfBoundsException("no such scope");
        }
    }

    private void checkGiven(int result, int first, int second) {
        checkNode(result);
        if (first != NONE) {
            checkNode(first);
        }
        if (second != NONE) {
            checkNode(second);
        }
        if (types.isVariable(result) || !isNeedFor(result, first) || !isNeedFor(result, second)) {
            throw new IllegalArgumentException("the variable stands where it may not");
        }
        if (finder.givenCount() >= MOST_GIVENS) {
            throw new IllegalStateException("there are 10 givens");
        }
    }

    private void checkAsked(int scope, int node) {
        checkScope(scope);
        checkNode(node);
        checkClosed(node);
    }

    private void checkSealed(int type) {
        if (!lines.isSealedOne(type)) {
            throw new UnsupportedOperationException("the class is not sealed");
        }
    }

    private void checkMatch(int type, int cases) {
        checkClass(type);
        if (cases < 0 || cases > MOST_CASES || (cases >> lines.count()) != 0) {
            throw new IllegalArgumentException("no such cases");
        }
        checkSealed(type);
    }

    private void checkSomeClass() {
        if (lines.count() == 0) {
            throw new ArithmeticException("there are no classes");
        }
    }

    private int ended(int outcome) {
        if (outcome == NO_END) {
            throw new UnsupportedOperationException("more than 30 definitions");
        }
        return outcome;
    }

    private int found(int given) {
        if (given < 0) {
            throw new UnsupportedOperationException("no given is found");
        }
        return given;
    }

    private boolean isArgumentFor(int type, int parent, int argument) {
        if (lines.hasParameter(parent) == (argument == NONE)) {
            return false;
        }
        if (argument == PARAMETER) {
            return lines.hasParameter(type);
        }
        return argument == NONE || types.isClosed(argument);
    }

    private boolean isAgainstVariance(int type, int parent, int argument) {
        char own = lines.varianceOf(type);
        return argument == PARAMETER && own != '=' && own != lines.varianceOf(parent);
    }

    private boolean isNeedFor(int result, int need) {
        return need == NONE || types.isClosed(need) || !types.isClosed(result);
    }

    private static boolean isClassKind(char kind) {
        return kind == 't' || kind == 'c';
    }

    private static boolean isVariance(char variance) {
        return variance == '+' || variance == '-' || variance == '=' || variance == '0';
    }

    private static boolean isMethodKind(char kind) {
        return kind == 'a' || kind == 'v' || kind == 's' || kind == 'o';
    }

    private static boolean isIn(int one, int set) {
        return ((set >> one) & 1) != 0;
    }

    /** The classes, their parents, and the one line of each; sets of classes are told in bits. */
    private static final class Lines {
        private final char[] kinds = new char[MOST_CLASSES];
        private final char[] variances = new char[MOST_CLASSES];
        private final boolean[] sealedOnes = new boolean[MOST_CLASSES];
        private final int[] parentCounts = new int[MOST_CLASSES];
        private final int[][] parents = new int[MOST_CLASSES][MOST_PARENTS];
        private final int[] sizes = new int[MOST_CLASSES];
        private final int[][] rows = new int[MOST_CLASSES][MOST_CLASSES];
        private final int[] sets = new int[MOST_CLASSES];
        private final int[] walked = new int[MOST_CLASSES];
        private int allParents;
        private int count;

        int count() {
            return count;
        }

        boolean isThere(int type) {
            return type >= 0 && type < count;
        }

        int add(char kind, char variance, boolean isSealed) {
            if (count >= MOST_CLASSES) {
                return NONE;
            }
            int type = count;
            kinds[type] = kind;
            variances[type] = variance;
            sealedOnes[type] = isSealed;
            sizes[type] = 1;
            rows[type][0] = type;
            sets[type] = 1 << type;
            count++;
            return type;
        }

        char varianceOf(int type) {
            return isThere(type) ? variances[type] : '0';
        }

        boolean hasParameter(int type) {
            return varianceOf(type) != '0';
        }

        boolean isSealedOne(int type) {
            return isThere(type) && sealedOnes[type];
        }

        int size(int type) {
            return isThere(type) ? sizes[type] : 0;
        }

        /** The line of a class; for a class that is not there, a row of which nothing is read. */
        int[] row(int type) {
            return isThere(type) ? rows[type] : walked;
        }

        int setOf(int type) {
            return isThere(type) ? sets[type] : 0;
        }

        boolean isInLine(int one, int type) {
            return isThere(one) && isThere(type) && isIn(one, sets[type]);
        }

        boolean isOpenFor(int type, int parent) {
            if (!isThere(type) || isIn(type, allParents) || parentCounts[type] >= MOST_PARENTS) {
                return false;
            }
            for (int at = 0; at < parentCounts[type]; at++) {
                if (parents[type][at] == parent) {
                    return false;
                }
            }
            return true;
        }

        void addParent(int type, int parent) {
            if (!isThere(parent) || !isOpenFor(type, parent)) {
                return;
            }
            parents[type][parentCounts[type]] = parent;
            parentCounts[type]++;
            allParents |= 1 << parent;
            putAhead(type, parent);
        }

        private void putAhead(int type, int parent) {
            int fresh = Integer.bitCount(sets[parent] & ~sets[type]);
            for (int place = sizes[type] - 1; place > 0 && place + fresh < MOST_CLASSES; place--) {
                rows[type][place + fresh] = rows[type][place];
            }
            int to = 1;
            for (int place = 0; place < sizes[parent]; place++) {
                int one = rows[parent][place];
                if (!isIn(one, sets[type]) && to < MOST_CLASSES) {
                    rows[type][to] = one;
                    to++;
                }
            }
            sizes[type] += fresh;
            sets[type] |= sets[parent];
        }

        /** The classes in whose lines a class is. */
        int heirs(int type) {
            int set = 0;
            for (int one = 0; one < count; one++) {
                if (isInLine(type, one)) {
                    set |= 1 << one;
                }
            }
            return set;
        }

        int leafSet(int type) {
            int set = heirs(type);
            for (int one = 0; one < count; one++) {
                if (!isMade(one)) {
                    set &= ~(1 << one);
                }
            }
            return set;
        }

        /** Whether objects of it are made: it is a class and no trait. */
        boolean isMade(int type) {
            return isThere(type) && kinds[type] == 'c';
        }

        int[] walked() {
            return walked;
        }

        /**
         * Finds a line again without the kept ones and answers its size. Going through the parents
         * in their order, each class behind all its parents, gives the line from its far end.
         */
        int walkAnew(int type) {
            int size = isThere(type) ? gather(this, type, 0, 0) : 0;
            for (int low = 0, high = size - 1; low < high; low++, high--) {
                int kept = walked[low];
                walked[low] = walked[high];
                walked[high] = kept;
            }
            return size;
        }

        private static int gather(Lines lines, int type, int filled, int depth) {
            if (depth >= MOST_CLASSES || lines.isGathered(type, filled)) {
                return filled;
            }
            int now = filled;
            for (int at = 0; at < lines.parentCounts[type]; at++) {
                now = gather(lines, lines.parents[type][at], now, depth + 1);
            }
            if (now < MOST_CLASSES) {
                lines.walked[now] = type;
                now++;
            }
            return now;
        }

        private boolean isGathered(int type, int filled) {
            for (int at = 0; at < filled; at++) {
                if (walked[at] == type) {
                    return true;
                }
            }
            return false;
        }

        /** Whether a line has each class once, and ahead of its parents. */
        boolean isOrdered(int type) {
            int behind = 0;
            for (int place = size(type) - 1; place >= 0; place--) {
                int one = rows[type][place];
                if (isIn(one, behind)) {
                    return false;
                }
                for (int at = 0; at < parentCounts[one]; at++) {
                    if (!isIn(parents[one][at], behind)) {
                        return false;
                    }
                }
                behind |= 1 << one;
            }
            return true;
        }
    }

    /**
     * The types that are laid, their bases, and how they compare. A type is a row of parts, for
     * each class has one parameter at most; behind the nodes, types are put together for a while,
     * which a given needs and nobody has laid.
     */
    private static final class Types {
        private static final int VARIABLE = -1;
        private static final int ROOM = MOST_NODES + MOST_NEEDS_DEEP * MOST_DEPTH;
        private static final int MOST_STEPS = 1000000;
        private static final int MODULUS = 1000003;

        private final Lines lines;
        private final int[] classes = new int[ROOM];
        private final int[] arguments = new int[ROOM];
        private final boolean[] closed = new boolean[ROOM];
        private final int[] depths = new int[MOST_NODES];
        private final int[] numbers = new int[MOST_NODES];
        private final int[][] baseArguments = new int[MOST_CLASSES][MOST_CLASSES];
        private int count;
        private int top = MOST_NODES;

        Types(Lines lines) {
            this.lines = lines;
        }

        boolean isThere(int node) {
            return node >= 0 && node < count;
        }

        boolean isFull() {
            return count >= MOST_NODES;
        }

        private boolean isPart(int type) {
            return (type >= 0 && type < count) || (type >= MOST_NODES && type < top);
        }

        int addVariable() {
            return keep(VARIABLE, NONE, false, 1);
        }

        int add(int type, int argument) {
            boolean isAllClosed = argument == NONE || isClosed(argument);
            return keep(type, argument, isAllClosed, numberWith(type, argument));
        }

        private int keep(int type, int argument, boolean isAllClosed, int number) {
            if (count >= MOST_NODES) {
                return NONE;
            }
            int node = count;
            classes[node] = type;
            arguments[node] = argument;
            closed[node] = isAllClosed;
            numbers[node] = number;
            depths[node] = 1 + depthOf(argument);
            count++;
            return node;
        }

        /** The depth of a node; 0 for an argument that is not there. */
        int depthOf(int node) {
            return isThere(node) ? depths[node] : 0;
        }

        int numberOf(int node) {
            return isThere(node) ? numbers[node] : 0;
        }

        int numberWith(int type, int argument) {
            int alone = 2 + type;
            return argument == NONE ? alone : (31 * alone + numberOf(argument)) % MODULUS;
        }

        boolean isClosed(int type) {
            return isPart(type) && closed[type];
        }

        boolean isVariable(int type) {
            return isPart(type) && classes[type] == VARIABLE;
        }

        int classOf(int type) {
            return isPart(type) ? classes[type] : NONE;
        }

        int argumentOf(int type) {
            return isPart(type) ? arguments[type] : NONE;
        }

        boolean isSame(int one, int other) {
            int left = one;
            int right = other;
            for (int part = 0; part < ROOM; part++) {
                if (left == right) {
                    return true;
                }
                if (!isPart(left) || !isPart(right) || classes[left] != classes[right]) {
                    return false;
                }
                left = arguments[left];
                right = arguments[right];
            }
            return false;
        }

        /**
         * The argument that a class, with an own argument, has for a class of its line: a node,
         * NONE, or what the own one is, which may be PARAMETER again.
         */
        int inherited(int type, int target, int own) {
            if (type == target) {
                return own;
            }
            if (!lines.isThere(type) || !lines.isThere(target)) {
                return NONE;
            }
            int kept = baseArguments[type][target];
            return kept == PARAMETER ? own : kept;
        }

        boolean hasUnlikeBase(int type, int parent, int argument) {
            for (int place = 0; place < lines.size(parent); place++) {
                int target = lines.row(parent)[place];
                int fresh = inherited(parent, target, argument);
                if (lines.isInLine(target, type) && !isSame(fresh, baseArguments[type][target])) {
                    return true;
                }
            }
            return false;
        }

        void addBases(int type, int parent, int argument) {
            if (!lines.isThere(type)) {
                return;
            }
            for (int place = 0; place < lines.size(parent); place++) {
                int target = lines.row(parent)[place];
                baseArguments[type][target] = inherited(parent, target, argument);
            }
        }

        /**
         * Whether a closed type is below another one. Each question asks one other at most, so all
         * of them stand in a row; a row that comes back to a pair never says no. The pair to come
         * back to is moved on at each power of two, which finds every such circle.
         */
        boolean fitsUnder(int one, int other) {
            int low = one;
            int high = other;
            int keptLow = one;
            int keptHigh = other;
            int next = 1;
            for (int step = 1; step < MOST_STEPS; step++) {
                int target = classOf(high);
                if (!lines.isInLine(target, classOf(low))) {
                    return false;
                }
                char variance = lines.varianceOf(target);
                if (variance == '0') {
                    return true;
                }
                int left = inherited(classOf(low), target, argumentOf(low));
                int right = argumentOf(high);
                if (variance == '=') {
                    return isSame(left, right);
                }
                low = variance == '+' ? left : right;
                high = variance == '+' ? right : left;
                if (isSame(low, keptLow) && isSame(high, keptHigh)) {
                    return true;
                }
                if (step == next) {
                    keptLow = low;
                    keptHigh = high;
                    next = 2 * next;
                }
            }
            return true;
        }

        boolean areBelowThemselves() {
            for (int node = 0; node < count; node++) {
                if (closed[node] && !fitsUnder(node, node)) {
                    return false;
                }
            }
            return true;
        }

        /** The type that makes the wanted one of a result when it is put for the variable, or NONE. */
        int putFor(int result, int wanted) {
            int left = result;
            int right = wanted;
            for (int part = 0; part < ROOM; part++) {
                if (!isPart(left) || !isPart(right)) {
                    return NONE;
                }
                if (classes[left] == VARIABLE) {
                    return right;
                }
                if (classes[left] != classes[right]) {
                    return NONE;
                }
                left = arguments[left];
                right = arguments[right];
            }
            return NONE;
        }

        /** A type in which another one is put for the variable; it stands until it is dropped. */
        int putInto(int type, int put) {
            if (isClosed(type)) {
                return type;
            }
            if (isVariable(type)) {
                return put;
            }
            int first = top;
            int part = type;
            for (int at = 0; at < MOST_DEPTH && isPart(part) && top < ROOM; at++) {
                int next = arguments[part];
                boolean isLast = isVariable(next);
                classes[top] = classes[part];
                arguments[top] = isLast ? put : top + 1;
                closed[top] = true;
                top++;
                if (isLast) {
                    return first;
                }
                part = next;
            }
            return NONE;
        }

        int top() {
            return top;
        }

        void dropTo(int mark) {
            if (mark >= MOST_NODES && mark <= top) {
                top = mark;
            }
        }
    }

    /** The methods and fields that the classes define. */
    private static final class Members {
        private final Lines lines;
        private final char[] kinds = new char[MOST_CLASSES * MEMBERS];
        private final int[] numbers = new int[MOST_CLASSES * MEMBERS];
        private final int[] others = new int[MOST_CLASSES * MEMBERS];
        private final boolean[] fields = new boolean[MOST_CLASSES * MEMBERS];
        private final int[] fieldNumbers = new int[MOST_CLASSES * MEMBERS];
        private final int[] fieldOthers = new int[MOST_CLASSES * MEMBERS];
        private final int[] values = new int[MEMBERS];

        Members(Lines lines) {
            this.lines = lines;
        }

        private static int slot(int type, int member) {
            return type * MEMBERS + member;
        }

        int setMethod(int type, int method, char kind, int number, int other) {
            int slot = slot(type, method);
            kinds[slot] = kind;
            numbers[slot] = kind == 'a' ? 0 : number;
            others[slot] = kind == 'o' ? other : 0;
            int defined = 0;
            for (int one = 0; one < MEMBERS; one++) {
                if (kinds[slot(type, one)] != 0) {
                    defined++;
                }
            }
            return defined;
        }

        int setField(int type, int field, int number, int other) {
            int slot = slot(type, field);
            fields[slot] = true;
            fieldNumbers[slot] = number;
            fieldOthers[slot] = other;
            int defined = 0;
            for (int one = 0; one < MEMBERS; one++) {
                if (fields[slot(type, one)]) {
                    defined++;
                }
            }
            return defined;
        }

        /** Whether a class is admitted; the line is gone through from its end, as 's' looks behind. */
        boolean admits(int type) {
            int told = 0;
            int given = 0;
            int asked = 0;
            for (int place = lines.size(type) - 1; place >= 0; place--) {
                int one = lines.row(type)[place];
                for (int method = 0; method < MEMBERS; method++) {
                    int slot = slot(one, method);
                    char kind = kinds[slot];
                    if (kind == 's' && !isIn(method, given)) {
                        return false;
                    }
                    if (kind == 'o') {
                        asked |= 1 << others[slot];
                    }
                    told |= kind != 0 ? 1 << method : 0;
                    given |= isGiving(kind) ? 1 << method : 0;
                }
            }
            return lines.isMade(type) && ((told | asked) & ~given) == 0;
        }

        private static boolean isGiving(char kind) {
            return kind != 0 && kind != 'a';
        }

        /** The first place of a line, from one on, whose definition is not abstract, or NONE. */
        int placeFrom(int[] row, int size, int method, int from) {
            for (int place = from; place < size; place++) {
                if (isGiving(kinds[slot(row[place], method)])) {
                    return place;
                }
            }
            return NONE;
        }

        /** What a method gives along a line, or NO_END after too many definitions. */
        int outcome(int[] row, int size, int method) {
            int sum = 0;
            int asked = method;
            int from = 0;
            for (int gone = 0; gone < MOST_DEFINITIONS; gone++) {
                int place = placeFrom(row, size, asked, from);
                if (place < 0) {
                    return NO_END;
                }
                int slot = slot(row[place], asked);
                sum += numbers[slot];
                if (kinds[slot] == 'v') {
                    return sum;
                }
                if (kinds[slot] == 's') {
                    from = place + 1;
                } else {
                    asked = others[slot];
                    from = 0;
                }
            }
            return NO_END;
        }

        /** Whether the line that is kept and the one that is found again give the same. */
        boolean isSteady(int type) {
            if (!admits(type)) {
                return true;
            }
            int size = lines.walkAnew(type);
            for (int method = 0; method < MEMBERS; method++) {
                int kept = outcome(lines.row(type), lines.size(type), method);
                if (kept != outcome(lines.walked(), size, method)) {
                    return false;
                }
            }
            return true;
        }

        boolean hasField(int type, int field) {
            for (int place = 0; place < lines.size(type); place++) {
                if (fields[slot(lines.row(type)[place], field)]) {
                    return true;
                }
            }
            return false;
        }

        int fieldWhenMade(int type, int field) {
            for (int one = 0; one < MEMBERS; one++) {
                values[one] = 0;
            }
            for (int place = lines.size(type) - 1; place >= 0; place--) {
                setFieldsOf(lines.row(type)[place]);
            }
            return values[field];
        }

        private void setFieldsOf(int type) {
            for (int field = 0; field < MEMBERS; field++) {
                int slot = slot(type, field);
                if (fields[slot]) {
                    int other = fieldOthers[slot];
                    values[field] = fieldNumbers[slot] + (other == NONE ? 0 : values[other]);
                }
            }
        }
    }

    /** The scopes, the givens, and how a given is found; sets of places are told in bits. */
    private static final class Finder {
        private final Lines lines;
        private final Types types;
        private final int[] outers = new int[MOST_SCOPES];
        private final int[] places = new int[MOST_GIVENS];
        private final int[] results = new int[MOST_GIVENS];
        private final int[] needs = new int[MOST_GIVENS * NEEDS];
        private int scopeCount;
        private int givenCount;

        Finder(Lines lines, Types types) {
            this.lines = lines;
            this.types = types;
        }

        int scopeCount() {
            return scopeCount;
        }

        int givenCount() {
            return givenCount;
        }

        static int placeOfScope(int scope) {
            return scope;
        }

        /** Companions are places behind the scopes, so that one number tells either. */
        static int placeBeside(int type) {
            return MOST_SCOPES + type;
        }

        int addScope(int around) {
            if (scopeCount >= MOST_SCOPES) {
                return NONE;
            }
            outers[scopeCount] = around;
            scopeCount++;
            return scopeCount - 1;
        }

        int addGiven(int place, int result, int first, int second) {
            if (givenCount >= MOST_GIVENS) {
                return NONE;
            }
            places[givenCount] = place;
            results[givenCount] = result;
            needs[NEEDS * givenCount] = first;
            needs[NEEDS * givenCount + 1] = second;
            givenCount++;
            return givenCount - 1;
        }

        /** The given that is found for a type, below as many others as told, or NONE, or AMBIGUOUS. */
        private int search(int scope, int type, boolean isFalling, int depth) {
            if (depth >= MOST_NEEDS_DEEP) {
                return NONE;
            }
            int inner = scope;
            for (int level = 0; level < MOST_SCOPES && inner >= 0 && inner < scopeCount; level++) {
                int decided = decide(1 << placeOfScope(inner), scope, type, isFalling, depth);
                if (decided != NONE) {
                    return decided;
                }
                inner = outers[inner];
            }
            return decide(companions(type), scope, type, isFalling, depth);
        }

        private int companions(int type) {
            int set = 0;
            int part = type;
            for (int at = 0; at < Types.ROOM && part != NONE; at++) {
                set |= lines.setOf(types.classOf(part));
                part = types.argumentOf(part);
            }
            return set << MOST_SCOPES;
        }

        /** What one level says, of which the places are told: a given, NONE or AMBIGUOUS. */
        private int decide(int level, int scope, int type, boolean isFalling, int depth) {
            int all = 0;
            int last = NONE;
            int closedOnes = 0;
            int lastClosed = NONE;
            for (int at = 0; at < givenCount; at++) {
                int given = isFalling ? givenCount - 1 - at : at;
                if (isIn(places[given], level) && counts(given, scope, type, isFalling, depth)) {
                    all++;
                    last = given;
                    if (types.isClosed(results[given])) {
                        closedOnes++;
                        lastClosed = given;
                    }
                }
            }
            if (all <= 1) {
                return last;
            }
            return closedOnes == 1 ? lastClosed : AMBIGUOUS;
        }

        private boolean counts(int given, int scope, int type, boolean isFalling, int depth) {
            int result = results[given];
            int put = NONE;
            if (types.isClosed(result)) {
                if (!types.fitsUnder(result, type)) {
                    return false;
                }
            } else {
                put = types.putFor(result, type);
                if (put == NONE) {
                    return false;
                }
            }
            for (int at = NEEDS * given; at < NEEDS * given + NEEDS; at++) {
                if (needs[at] != NONE) {
                    int mark = types.top();
                    int found = search(scope, types.putInto(needs[at], put), isFalling, depth + 1);
                    types.dropTo(mark);
                    if (found < 0) {
                        return false;
                    }
                }
            }
            return true;
        }

        /** How many givens are used for a type: the one that is found, and those for its needs. */
        private static int countUsed(Finder finder, int scope, int type, int depth) {
            int given = finder.search(scope, type, false, depth);
            if (given < 0 || depth >= MOST_NEEDS_DEEP) {
                return 0;
            }
            Types types = finder.types;
            int put = types.putFor(finder.results[given], type);
            int sum = 1;
            for (int at = NEEDS * given; at < NEEDS * given + NEEDS; at++) {
                if (finder.needs[at] != NONE) {
                    int mark = types.top();
                    int wanted = types.putInto(finder.needs[at], put);
                    sum += countUsed(finder, scope, wanted, depth + 1);
                    types.dropTo(mark);
                }
            }
            return sum;
        }
    }
}
