/** Runs by hand for each promise: ordinary inputs, the edges of the document, wrong inputs. */
public final class PromiseTest {
    private static final Script SCRIPT = new Script();

    public static void main(String[] arguments) {
        newObject();
        classes();
        extendOrder();
        lines();
        bases();
        types();
        comparing();
        circles();
        methods();
        calls();
        fields();
        scopes();
        finding();
        needs();
        companions();
        matches();
        figures();
        SCRIPT.close("PromiseTest");
    }

    private static void newObject() {
        SCRIPT.play("promise 1", """
            compared -> 0
            isSound -> true
            admittedShare -> AE
            meanLine -> AE
            lineSize 0 -> IOOBE
            number 0 -> NSEE
            look 0 0 -> IOOBE
            addClass t 0 false -> 0
            variable -> 0
            openScope -1 -> 0
            """);
    }

    private static void classes() {
        SCRIPT.play("promise 2", """
            addClass x + true -> IAE
            addClass t x true -> IAE
            addClass 0 0 true -> IAE
            addClass c * false -> IAE
            addClass T + false -> IAE
            addClass 116 43 true -> 0
            addClass c - false -> 1
            addClass c = true -> 2
            addClass t 0 false -> 3
            lineSize 3 -> 1
            lineAt 3 0 -> 3
            lineSize 4 -> IOOBE
            addClass t 0 false -> 4
            addClass t 0 false -> 5
            addClass t 0 false -> 6
            addClass t 0 false -> 7
            addClass t 0 false -> 8
            addClass t 0 false -> 9
            addClass t 0 false -> 10
            addClass t 0 false -> 11
            addClass t 0 false -> 12
            addClass t 0 false -> 13
            addClass t 0 false -> 14
            addClass t 0 false -> 15
            addClass t 0 false -> ISE
            # the argument comes before the state
            addClass x 0 false -> IAE
            addClass t x false -> IAE
            lineSize 15 -> 1
            lineSize 16 -> IOOBE
            """);
    }

    private static void extendOrder() {
        SCRIPT.play("promise 3, exceptions", """
            addClass t + false -> 0
            addClass t 0 false -> 1
            addClass c = false -> 2
            addClass c 0 false -> 3
            variable -> 0
            lay 1 -1 -> 1
            lay 0 0 -> 2
            extend -1 0 1 -> IOOBE
            extend 4 0 1 -> IOOBE
            extend 3 4 1 -> IOOBE
            extend 3 -1 99 -> IOOBE
            extend 3 0 3 -> NSEE
            extend 3 0 -3 -> NSEE
            # no such node comes before anything else that is wrong with it
            extend 3 1 99 -> NSEE
            extend 1 3 99 -> NSEE
            extend 3 3 -1 -> IAE
            extend 1 3 -1 -> IAE
            extend 3 0 -1 -> IAE
            extend 3 1 1 -> IAE
            extend 3 1 -2 -> IAE
            extend 3 0 -2 -> IAE
            extend 3 0 0 -> IAE
            extend 3 0 2 -> IAE
            extend 2 0 -2 -> 2
            extend 2 0 -2 -> ISE
            extend 2 0 1 -> ISE
            # the argument comes before the state: the parameter is missing
            extend 2 0 -1 -> IAE
            extend 3 2 1 -> 3
            # a class that is a parent takes no more
            extend 2 1 -1 -> ISE
            # an ancestor may be told as a parent, with the same base
            extend 3 0 1 -> 3
            extend 3 1 -1 -> 4
            lineAt 3 0 -> 3
            lineAt 3 1 -> 1
            lineAt 3 2 -> 2
            lineAt 3 3 -> 0
            """);
        SCRIPT.play("promise 3, three parents", """
            addClass t 0 false -> 0
            addClass t 0 false -> 1
            addClass t 0 false -> 2
            addClass t + false -> 3
            addClass c 0 false -> 4
            lay 4 -1 -> 0
            extend 4 0 -1 -> 2
            extend 4 1 -1 -> 3
            extend 4 2 -1 -> 4
            extend 4 3 0 -> ISE
            extend 4 3 -1 -> IAE
            lineSize 4 -> 4
            lineAt 4 1 -> 2
            lineAt 4 2 -> 1
            lineAt 4 3 -> 0
            """);
        SCRIPT.play("promise 3, variance", """
            addClass t + false -> 0
            addClass t - false -> 1
            addClass t = false -> 2
            addClass t + false -> 3
            addClass t - false -> 4
            addClass t = false -> 5
            extend 3 1 -2 -> UOE
            extend 3 2 -2 -> UOE
            extend 3 0 -2 -> 2
            extend 4 0 -2 -> UOE
            extend 4 2 -2 -> UOE
            extend 4 1 -2 -> 2
            extend 5 0 -2 -> 2
            extend 5 1 -2 -> 3
            extend 5 2 -2 -> 4
            # the state comes before the variance
            extend 5 3 -2 -> ISE
            """);
    }

    private static void lines() {
        SCRIPT.play("promises 4 and 5", """
            addClass t 0 false -> 0
            addClass t 0 false -> 1
            addClass t 0 false -> 2
            addClass t 0 false -> 3
            addClass t 0 false -> 4
            addClass c 0 false -> 5
            # 3 = 3 1 0; 4 = 4 2 0
            extend 1 0 -1 -> 2
            extend 2 0 -1 -> 2
            extend 3 1 -1 -> 3
            extend 4 2 -1 -> 3
            # the row of 5 is 3 1 0 and then 4 2 3 1 0
            extend 5 3 -1 -> 4
            extend 5 4 -1 -> 6
            lineSize 5 -> 6
            lineAt 5 0 -> 5
            lineAt 5 1 -> 4
            lineAt 5 2 -> 2
            lineAt 5 3 -> 3
            lineAt 5 4 -> 1
            lineAt 5 5 -> 0
            lineAt 5 6 -> NSEE
            lineAt 5 -1 -> NSEE
            lineAt 0 1 -> NSEE
            lineAt 6 0 -> IOOBE
            lineAt 6 99 -> IOOBE
            lineAt -1 0 -> IOOBE
            lineSize 6 -> IOOBE
            lineSize -1 -> IOOBE
            lineSize 3 -> 3
            lineSize 0 -> 1
            """);
    }

    private static void bases() {
        SCRIPT.play("promise 3, unlike bases", """
            addClass t + false -> 0
            addClass t + false -> 1
            addClass t 0 false -> 2
            addClass c + false -> 3
            addClass c 0 false -> 4
            addClass c + false -> 5
            extend 1 0 -2 -> 2
            lay 2 -1 -> 0
            lay 2 -1 -> 1
            lay 4 -1 -> 2
            # 3[X] is 1[4], so it is 0[4] and not 0[X]
            extend 3 1 2 -> 3
            extend 3 0 -2 -> UOE
            extend 3 0 0 -> UOE
            lineSize 3 -> 3
            extend 3 0 2 -> 3
            # two nodes of the same type are alike
            extend 4 1 0 -> 3
            extend 4 0 2 -> UOE
            extend 4 0 1 -> 3
            extend 4 3 0 -> UOE
            lineSize 4 -> 3
            extend 4 2 -1 -> 4
            extend 5 0 -2 -> 2
            extend 5 1 0 -> UOE
            extend 5 1 -2 -> 3
            lineAt 5 1 -> 1
            lineAt 5 2 -> 0
            """);
        SCRIPT.play("promise 9", """
            addClass t + false -> 0
            addClass c + false -> 1
            addClass c 0 false -> 2
            addClass t 0 false -> 3
            variable -> 0
            lay 3 -1 -> 1
            lay 0 1 -> 2
            extend 1 0 -2 -> 2
            extend 2 1 2 -> 3
            lay 1 1 -> 3
            lay 2 -1 -> 4
            lay 0 0 -> 5
            # 3 is 5, 0[3] is 31*2+5, 1[3] is 31*3+5
            base 3 1 -> 98
            base 3 0 -> 67
            # 2 is 4, 1[0[3]] is 31*3+67, 0[0[3]] is 31*2+67
            base 4 2 -> 4
            base 4 1 -> 160
            base 4 0 -> 129
            base 1 3 -> 5
            base 6 0 -> NSEE
            base -1 99 -> NSEE
            base 5 4 -> IOOBE
            base 5 -1 -> IOOBE
            base 5 0 -> IAE
            base 0 0 -> IAE
            base 5 3 -> IAE
            base 4 3 -> UOE
            base 3 2 -> UOE
            """);
    }

    private static void types() {
        SCRIPT.play("promises 6, 7 and 8", """
            addClass t = false -> 0
            addClass c 0 false -> 1
            variable -> 0
            variable -> 1
            lay 1 -1 -> 2
            lay 1 -1 -> 3
            number 0 -> 1
            number 1 -> 1
            number 2 -> 3
            number 4 -> NSEE
            number -1 -> NSEE
            lay 2 -1 -> IOOBE
            lay -1 99 -> IOOBE
            lay 0 4 -> NSEE
            lay 0 -2 -> NSEE
            lay 1 4 -> NSEE
            lay 0 -1 -> IAE
            lay 1 2 -> IAE
            lay 1 0 -> IAE
            lay 0 2 -> 4
            lay 0 0 -> 5
            number 4 -> 65
            number 5 -> 63
            lay 0 4 -> 6
            lay 0 6 -> 7
            lay 0 7 -> 8
            lay 0 8 -> 9
            # 31*2 five times and 3
            number 9 -> 313
            lay 0 9 -> ISE
            lay 1 9 -> IAE
            lay 0 5 -> 10
            lay 0 10 -> 11
            lay 0 11 -> 12
            lay 0 12 -> 13
            number 13 -> 311
            lay 0 13 -> ISE
            lay 0 12 -> 14
            """);
        StringBuilder full = new StringBuilder("addClass t = false -> 0\naddClass c 0 false -> 1\n");
        for (int node = 0; node < 119; node++) {
            full.append(node % 2 == 0 ? "variable -> " : "lay 1 -1 -> ").append(node).append('\n');
        }
        SCRIPT.play("promises 6 and 7, full", full + """
            lay 0 1 -> 119
            variable -> ISE
            lay 0 1 -> ISE
            lay 1 -1 -> ISE
            lay 0 -1 -> IAE
            lay 0 120 -> NSEE
            lay 2 -1 -> IOOBE
            number 119 -> 65
            number 120 -> NSEE
            isSound -> true
            """);
    }

    private static void comparing() {
        SCRIPT.play("promise 10", """
            addClass t 0 false -> 0
            addClass t 0 false -> 1
            extend 1 0 -1 -> 2
            addClass t + false -> 2
            addClass t - false -> 3
            addClass t = false -> 4
            addClass c + false -> 5
            extend 5 2 -2 -> 2
            variable -> 0
            lay 0 -1 -> 1
            lay 1 -1 -> 2
            lay 2 1 -> 3
            lay 2 2 -> 4
            lay 3 1 -> 5
            lay 3 2 -> 6
            lay 4 1 -> 7
            lay 4 2 -> 8
            lay 5 2 -> 9
            lay 2 0 -> 10
            lay 0 -1 -> 11
            isBelow 12 0 -> NSEE
            isBelow 0 12 -> NSEE
            isBelow -1 0 -> NSEE
            isBelow 10 1 -> IAE
            isBelow 1 10 -> IAE
            isBelow 0 0 -> IAE
            compared -> 0
            isBelow 2 1 -> true
            isBelow 1 2 -> false
            isBelow 1 11 -> true
            isBelow 4 3 -> true
            isBelow 3 4 -> false
            isBelow 6 5 -> false
            isBelow 5 6 -> true
            isBelow 8 7 -> false
            isBelow 7 8 -> false
            isBelow 7 7 -> true
            isBelow 9 3 -> true
            isBelow 9 4 -> true
            isBelow 4 9 -> false
            isBelow 3 1 -> false
            # a '-' in a '-' turns twice
            lay 3 5 -> 12
            lay 3 6 -> 13
            isBelow 12 13 -> false
            isBelow 13 12 -> true
            # the same by its parts, of other nodes
            lay 4 11 -> 14
            isBelow 14 7 -> true
            lay 3 9 -> 15
            lay 3 3 -> 16
            isBelow 16 15 -> true
            isBelow 15 16 -> false
            compared -> 19
            """);
    }

    private static void circles() {
        // 1 is a 0[0[1]] with '-': what is asked comes back in the middle of it.
        SCRIPT.play("promise 10, asked again", """
            addClass t - false -> 0
            addClass c 0 false -> 1
            addClass t 0 false -> 2
            lay 1 -1 -> 0
            lay 0 0 -> 1
            lay 0 1 -> 2
            lay 2 -1 -> 3
            extend 1 0 1 -> 2
            # 1 is 0[0[1]]; below 0[1] if 1 is below 0[1]: asked again, so it is
            isBelow 0 1 -> true
            # below 0[0[1]] if 0[1] is below 0[1], as they are the same
            isBelow 0 2 -> true
            # 0[1] is below 1 if 1 were in its line
            isBelow 1 0 -> false
            isBelow 0 3 -> false
            """);
        SCRIPT.play("promise 10, a longer circle", """
            addClass t - false -> 0
            addClass t - false -> 1
            addClass c 0 false -> 2
            addClass c 0 false -> 3
            lay 2 -1 -> 0
            lay 3 -1 -> 1
            lay 0 1 -> 2
            lay 0 0 -> 3
            lay 0 2 -> 4
            lay 0 3 -> 5
            # 2 is 0[0[3]] and 3 is 0[0[2]]
            extend 2 0 2 -> 2
            extend 3 0 3 -> 2
            # 2 below 0[3] asks 3 below 0[3], and that 3 below 0[2], and that 2 below 0[2], and that the first one
            isBelow 0 2 -> true
            isBelow 1 2 -> true
            isBelow 1 3 -> true
            isBelow 0 3 -> true
            isBelow 0 1 -> false
            isBelow 0 4 -> true
            isBelow 1 4 -> false
            isBelow 0 5 -> false
            isBelow 1 5 -> true
            compared -> 9
            isSound -> true
            """);
    }

    private static void methods() {
        SCRIPT.play("promise 11", """
            addClass c 0 false -> 0
            define 1 0 v 0 0 -> IOOBE
            define -1 9 x -1 -1 -> IOOBE
            define 0 -1 v 0 0 -> IAE
            define 0 8 v 0 0 -> IAE
            define 0 0 x 0 0 -> IAE
            define 0 0 A 0 0 -> IAE
            define 0 0 v -1 0 -> IAE
            define 0 0 v 100 0 -> IAE
            define 0 0 s -1 0 -> IAE
            define 0 0 s 100 0 -> IAE
            define 0 0 o 100 0 -> IAE
            define 0 0 o 0 8 -> IAE
            define 0 0 o 0 -1 -> IAE
            # a number that means nothing may be anything, and so may another method
            define 0 0 a 100 8 -> 1
            define 0 0 a -5 -5 -> 1
            define 0 1 v 99 -7 -> 2
            define 0 2 v 0 99 -> 3
            call 0 1 -> ISE
            define 0 0 v 4 0 -> 3
            call 0 0 -> 4
            call 0 1 -> 99
            define 0 7 o 99 1 -> 4
            call 0 7 -> 198
            define 0 3 s 0 50 -> 5
            isAdmitted 0 -> false
            define 0 3 a 0 0 -> 5
            isAdmitted 0 -> false
            """);
        SCRIPT.play("promise 13", """
            addClass t 0 false -> 0
            addClass c 0 false -> 1
            addClass c 0 false -> 2
            extend 1 0 -1 -> 2
            extend 2 1 -1 -> 3
            isAdmitted 3 -> IOOBE
            isAdmitted -1 -> IOOBE
            # a trait never is; a class without methods is
            isAdmitted 0 -> false
            isAdmitted 1 -> true
            define 0 0 a 0 0 -> 1
            isAdmitted 1 -> false
            define 2 0 v 3 0 -> 1
            isAdmitted 1 -> false
            isAdmitted 2 -> true
            # each definition of the line counts, even one that no call reaches
            define 1 0 s 1 0 -> 1
            isAdmitted 2 -> false
            define 0 0 v 1 0 -> 1
            isAdmitted 2 -> true
            define 0 1 o 1 5 -> 2
            isAdmitted 2 -> false
            define 1 5 a 0 0 -> 2
            isAdmitted 2 -> false
            # the other method may be found ahead in the line
            define 2 5 v 2 0 -> 2
            isAdmitted 2 -> true
            isAdmitted 1 -> false
            call 2 1 -> 3
            """);
        SCRIPT.play("promise 16", """
            addClass t 0 false -> 0
            addClass t 0 false -> 1
            addClass t 0 false -> 2
            extend 1 0 -1 -> 2
            extend 2 1 -1 -> 3
            define 0 3 o 0 4 -> 1
            define 1 3 s 0 0 -> 1
            define 2 3 a 0 0 -> 1
            definer 2 3 -> 1
            definer 1 3 -> 1
            definer 0 3 -> 0
            definer 2 4 -> NSEE
            define 0 4 a 0 0 -> 2
            definer 0 4 -> NSEE
            definer 3 8 -> IOOBE
            definer -1 0 -> IOOBE
            definer 0 8 -> IAE
            definer 0 -1 -> IAE
            """);
    }

    private static void calls() {
        SCRIPT.play("promises 14 and 15", """
            addClass t 0 false -> 0
            addClass t 0 false -> 1
            addClass t 0 false -> 2
            addClass c 0 false -> 3
            extend 1 0 -1 -> 2
            extend 2 0 -1 -> 2
            extend 3 1 -1 -> 3
            extend 3 2 -1 -> 4
            # the line of 3 is 3 2 1 0
            define 0 0 v 1 0 -> 1
            define 1 0 s 10 0 -> 1
            define 2 0 a 0 0 -> 1
            define 3 0 s 50 0 -> 1
            call 3 0 -> 61
            callAnew 3 0 -> 61
            define 2 0 s 20 0 -> 1
            call 3 0 -> 81
            callAnew 3 0 -> 81
            # 'o' begins at the front again, for the class that is called
            define 0 1 o 2 0 -> 2
            define 2 1 s 3 0 -> 2
            call 3 1 -> 86
            callAnew 3 1 -> 86
            call 4 0 -> IOOBE
            callAnew 4 0 -> IOOBE
            call -1 8 -> IOOBE
            callAnew -1 8 -> IOOBE
            call 3 8 -> IAE
            callAnew 3 8 -> IAE
            call 3 -1 -> IAE
            callAnew 3 -1 -> IAE
            # no such method comes before a trait, and that before a method nobody defines
            call 0 8 -> IAE
            call 0 0 -> ISE
            callAnew 0 0 -> ISE
            call 0 5 -> ISE
            callAnew 0 5 -> ISE
            call 3 5 -> NSEE
            callAnew 3 5 -> NSEE
            isSound -> true
            """);
        SCRIPT.play("promises 14 and 15, too many definitions", thirty("v") + """
            call 14 0 -> 30
            callAnew 14 0 -> 30
            isSound -> true
            """);
        SCRIPT.play("promises 14 and 15, one too many", thirty("o") + """
            define 0 2 v 1 0 -> 3
            call 14 0 -> UOE
            callAnew 14 0 -> UOE
            call 14 1 -> 16
            isSound -> true
            """);
        SCRIPT.play("promises 14 and 15, no end", """
            addClass c 0 false -> 0
            define 0 0 o 1 0 -> 1
            isAdmitted 0 -> true
            call 0 0 -> UOE
            callAnew 0 0 -> UOE
            define 0 0 o 1 1 -> 1
            define 0 1 o 1 0 -> 2
            call 0 1 -> UOE
            callAnew 0 1 -> UOE
            isSound -> true
            """);
    }

    /** Fifteen definitions of 0, which end in the method 1, and fifteen of that; the last is told. */
    private static String thirty(String last) {
        StringBuilder run = new StringBuilder();
        for (int type = 0; type < 15; type++) {
            run.append("addClass c 0 false -> ").append(type).append('\n');
            if (type > 0) {
                run.append("extend ").append(type).append(' ').append(type - 1).append(" -1 -> ").append(type + 1);
                run.append('\n');
            }
            run.append("define ").append(type).append(type == 0 ? " 0 o 1 1 -> 1" : " 0 s 1 1 -> 1").append('\n');
            run.append("define ").append(type).append(type == 0 ? " 1 " + last + " 1 2 -> 2" : " 1 s 1 1 -> 2");
            run.append('\n');
        }
        return run.toString();
    }

    private static void fields() {
        SCRIPT.play("promise 12", """
            addClass t 0 false -> 0
            defineField 1 0 0 -1 -> IOOBE
            defineField -1 8 100 8 -> IOOBE
            defineField 0 8 0 -1 -> IAE
            defineField 0 -1 0 -1 -> IAE
            defineField 0 0 100 -1 -> IAE
            defineField 0 0 -1 -1 -> IAE
            defineField 0 0 0 8 -> IAE
            defineField 0 0 0 -2 -> IAE
            fieldOf 0 0 -> NSEE
            defineField 0 0 99 -1 -> 1
            defineField 0 0 0 7 -> 1
            defineField 0 7 99 0 -> 2
            fieldOf 0 0 -> 0
            fieldOf 0 7 -> 99
            """);
        SCRIPT.play("promise 17", """
            addClass t 0 false -> 0
            addClass t 0 false -> 1
            addClass t 0 false -> 2
            addClass c 0 false -> 3
            extend 1 0 -1 -> 2
            extend 2 0 -1 -> 2
            extend 3 1 -1 -> 3
            extend 3 2 -1 -> 4
            # made in the order 0 1 2 3; 2 looks at 4 before 3 sets it
            defineField 0 2 5 -1 -> 1
            defineField 1 2 10 2 -> 1
            defineField 2 3 20 2 -> 1
            defineField 2 5 1 4 -> 2
            defineField 3 4 40 3 -> 1
            defineField 3 2 1 2 -> 2
            fieldOf 3 2 -> 16
            fieldOf 3 3 -> 35
            fieldOf 3 4 -> 75
            fieldOf 3 5 -> 1
            fieldOf 2 3 -> 25
            fieldOf 2 5 -> 1
            fieldOf 2 4 -> NSEE
            fieldOf 1 2 -> 15
            fieldOf 0 2 -> 5
            # in one class they are set by rising numbers, whatever was told first
            defineField 3 7 1 6 -> 3
            defineField 3 6 1 7 -> 4
            fieldOf 3 6 -> 1
            fieldOf 3 7 -> 2
            fieldOf 4 8 -> IOOBE
            fieldOf -1 0 -> IOOBE
            fieldOf 3 8 -> IAE
            fieldOf 3 -1 -> IAE
            fieldOf 3 0 -> NSEE
            """);
    }

    private static void scopes() {
        SCRIPT.play("promise 18", """
            openScope 0 -> IOOBE
            openScope -2 -> IOOBE
            openScope -1 -> 0
            openScope 1 -> IOOBE
            openScope 0 -> 1
            openScope 0 -> 2
            openScope -1 -> 3
            openScope 3 -> 4
            openScope -1 -> ISE
            openScope 4 -> ISE
            openScope 5 -> IOOBE
            """);
        for (String call : new String[] {"give", "giveBeside"}) {
            String run = """
                addClass t = false -> 0
                openScope -1 -> 0
                addClass c 0 false -> 1
                openScope -1 -> 1
                variable -> 0
                lay 1 -1 -> 1
                lay 0 0 -> 2
                lay 0 1 -> 3
                give 2 9 9 9 -> IOOBE
                give -1 1 -1 -1 -> IOOBE
                give 0 4 -1 -1 -> NSEE
                give 0 -1 -1 -1 -> NSEE
                give 0 0 4 -1 -> NSEE
                give 0 0 -2 -1 -> NSEE
                give 0 0 -1 4 -> NSEE
                give 0 0 -1 -2 -> NSEE
                give 0 0 -1 -1 -> IAE
                give 0 1 0 -1 -> IAE
                give 0 3 1 2 -> IAE
                give 0 1 -1 0 -> IAE
                give 0 2 0 2 -> 0
                give 0 2 1 3 -> 1
                give 1 3 1 1 -> 2
                give 1 1 -1 3 -> 3
                give 0 1 1 -1 -> 4
                give 0 1 1 -1 -> 5
                give 0 1 1 -1 -> 6
                give 0 1 1 -1 -> 7
                give 0 1 1 -1 -> 8
                give 0 1 1 -1 -> 9
                give 0 1 1 -1 -> ISE
                give 0 0 1 -1 -> IAE
                give 0 9 1 -1 -> NSEE
                give 9 1 1 -1 -> IOOBE
                """.replace("give ", call + " ");
            SCRIPT.play(call.equals("give") ? "promise 19" : "promise 20", run);
        }
        SCRIPT.play("promises 19 and 20, ten together", """
            addClass c 0 false -> 0
            openScope -1 -> 0
            lay 0 -1 -> 0
            give 0 0 -1 -1 -> 0
            giveBeside 0 0 -1 -1 -> 1
            give 0 0 -1 -1 -> 2
            giveBeside 0 0 -1 -1 -> 3
            give 0 0 -1 -1 -> 4
            giveBeside 0 0 -1 -1 -> 5
            give 0 0 -1 -1 -> 6
            giveBeside 0 0 -1 -1 -> 7
            give 0 0 -1 -1 -> 8
            giveBeside 0 0 -1 -1 -> 9
            give 0 0 -1 -1 -> ISE
            giveBeside 0 0 -1 -1 -> ISE
            """);
    }

    private static void finding() {
        SCRIPT.play("promises 21 to 24", """
            addClass t 0 false -> 0
            addClass c 0 false -> 1
            extend 1 0 -1 -> 2
            addClass t - false -> 2
            openScope -1 -> 0
            openScope 0 -> 1
            openScope 1 -> 2
            openScope -1 -> 3
            variable -> 0
            lay 0 -1 -> 1
            lay 1 -1 -> 2
            lay 2 1 -> 3
            lay 2 2 -> 4
            lay 2 0 -> 5
            """
            + asked("4 1", "IOOBE", "IOOBE") + asked("-1 99", "IOOBE", "IOOBE")
            + asked("0 6", "NSEE", "NSEE") + asked("0 -1", "NSEE", "NSEE")
            + asked("0 0", "IAE", "IAE") + asked("0 5", "IAE", "IAE")
            + asked("2 1", "n", "UOE") + """
            give 0 2 -1 -1 -> 0
            """
            // a type above the result, from the outer scope; not from a scope beside it
            + asked("2 1", "g", "0") + asked("2 2", "g", "0") + asked("3 2", "n", "UOE") + """
            give 1 1 -1 -1 -> 1
            """
            // the inner level decides where something fits
            + asked("2 1", "g", "1") + asked("2 2", "g", "0") + asked("0 1", "g", "0") + """
            give 1 2 -1 -1 -> 2
            """
            // two with closed results are ambiguous, and the outer level is not asked any more
            + asked("2 1", "a", "UOE") + asked("1 1", "a", "UOE") + asked("2 2", "g", "2") + """
            give 3 5 -1 -1 -> 3
            """
            + asked("3 3", "g", "3") + asked("3 4", "g", "3") + asked("3 1", "n", "UOE") + """
            give 3 3 -1 -1 -> 4
            """
            // 2[0] is below 2[1], so the closed one is found for both
            + asked("3 3", "g", "4") + asked("3 4", "g", "4") + """
            give 3 4 -1 -1 -> 5
            """
            + asked("3 3", "g", "4") + asked("3 4", "a", "UOE") + """
            give 2 5 -1 -1 -> 6
            give 2 5 -1 -1 -> 7
            """
            // two with the variable are ambiguous as well
            + asked("2 3", "a", "UOE") + """
            give 2 3 -1 -1 -> 8
            """
            + asked("2 3", "g", "8"));
    }

    /** The four calls for one type: what look says, and what the two that find a given say. */
    private static String asked(String place, String look, String find) {
        boolean isFound = look.equals("g");
        return "look " + place + " -> " + look + "\nfind " + place + " -> " + find
            + "\nfindAnew " + place + " -> " + find + "\nused " + place + " -> " + (isFound ? "1" : find) + "\n";
    }

    private static void needs() {
        String list = """
            addClass c 0 false -> 0
            addClass c = false -> 1
            addClass c = false -> 2
            openScope -1 -> 0
            openScope 0 -> 1
            variable -> 0
            lay 0 -1 -> 1
            lay 1 1 -> 2
            lay 1 2 -> 3
            lay 1 3 -> 4
            lay 1 0 -> 5
            lay 2 0 -> 6
            lay 2 1 -> 7
            """;
        SCRIPT.play("promise 24, a row of needs", list + """
            give 0 1 -1 -1 -> 0
            give 0 5 0 0 -> 1
            used 0 1 -> 1
            used 0 2 -> 3
            used 0 3 -> 7
            used 1 3 -> 7
            # a type that is needed below three others is not found
            used 0 4 -> UOE
            look 0 4 -> n
            """);
        SCRIPT.play("promise 21, needs are looked for where the type is", list + """
            give 0 5 0 -1 -> 0
            give 1 1 -1 -1 -> 1
            look 0 2 -> n
            look 1 2 -> g
            find 1 2 -> 0
            used 1 2 -> 2
            # an ambiguous need is not found
            give 1 1 -1 -1 -> 2
            look 1 1 -> a
            look 1 2 -> n
            used 1 2 -> UOE
            """);
        SCRIPT.play("promise 21, who does not count decides nothing", list + """
            give 0 1 -1 -1 -> 0
            give 0 5 -1 -1 -> 1
            give 1 2 7 -1 -> 2
            find 1 2 -> 1
            give 0 6 0 -1 -> 3
            find 1 2 -> 2
            used 1 2 -> 3
            # the second need counts as well
            give 1 5 -1 7 -> 4
            find 1 2 -> 2
            find 1 3 -> 4
            used 1 3 -> 3
            findAnew 1 3 -> 4
            """);
        SCRIPT.play("promise 24, asked often", list + """
            lay 2 6 -> 8
            lay 2 8 -> 9
            lay 2 9 -> 10
            give 0 5 10 10 -> 0
            give 0 6 -1 -1 -> 1
            """ + "used 0 2 -> 3\nlook 0 2 -> g\nfindAnew 0 2 -> 0\n".repeat(160));
        SCRIPT.play("promise 21, the variable at two places", list + """
            lay 2 5 -> 8
            lay 2 2 -> 9
            lay 2 3 -> 10
            give 0 8 0 -1 -> 0
            give 0 1 -1 -1 -> 1
            look 0 7 -> n
            find 0 9 -> 0
            used 0 9 -> 2
            # 2[1[1[0]]] needs 1[0]
            look 0 10 -> n
            give 0 2 -1 -1 -> 2
            find 0 10 -> 0
            used 0 10 -> 2
            """);
        SCRIPT.play("promise 21, needs deeper than nodes", list + """
            lay 2 6 -> 8
            lay 2 8 -> 9
            lay 2 9 -> 10
            lay 2 10 -> 11
            # 1[X] needs 2[2[2[2[2[X]]]]], which the second one gives, whatever stands in it
            give 0 5 11 -1 -> 0
            look 0 2 -> n
            give 0 6 -1 -1 -> 1
            find 0 2 -> 0
            find 0 4 -> 0
            used 0 4 -> 2
            # another 2[X] needs the same: below one other both count, below two the first one alone
            give 0 6 11 -1 -> 2
            look 0 7 -> g
            find 0 7 -> 1
            used 0 7 -> 1
            look 0 4 -> n
            """);
    }

    private static void companions() {
        SCRIPT.play("promise 20, companions", """
            addClass t 0 false -> 0
            addClass c 0 false -> 1
            extend 1 0 -1 -> 2
            addClass t + false -> 2
            addClass c + false -> 3
            extend 3 2 -2 -> 2
            addClass c 0 false -> 4
            openScope -1 -> 0
            openScope 0 -> 1
            variable -> 0
            lay 1 -1 -> 1
            lay 3 1 -> 2
            lay 2 0 -> 3
            lay 3 0 -> 4
            lay 4 -1 -> 5
            lay 3 5 -> 6
            # beside a class of the argument's line
            giveBeside 0 2 -1 -1 -> 0
            find 0 2 -> 0
            look 0 6 -> n
            # beside a class of the line; with a result that has the variable, the same class counts
            giveBeside 2 4 -1 -1 -> 1
            find 0 6 -> 1
            find 0 2 -> 0
            giveBeside 4 6 -1 -1 -> 2
            find 0 6 -> 2
            # all companions are one level
            giveBeside 3 6 -1 -1 -> 3
            look 0 6 -> a
            findAnew 0 6 -> UOE
            # and the last one, behind each scope
            give 0 4 -1 -1 -> 4
            find 1 6 -> 4
            find 1 2 -> 4
            used 1 2 -> 1
            # nobody beside another class is asked
            giveBeside 4 1 -1 -1 -> 5
            look 0 1 -> n
            giveBeside 0 1 -1 -1 -> 6
            find 0 1 -> 6
            """);
    }

    private static void matches() {
        String family = """
            addClass t 0 true -> 0
            addClass t 0 true -> 1
            addClass c 0 false -> 2
            addClass c 0 false -> 3
            addClass c 0 true -> 4
            addClass t 0 true -> 5
            extend 1 0 -1 -> 2
            extend 2 1 -1 -> 3
            extend 3 0 -1 -> 2
            extend 4 2 -1 -> 4
            """;
        SCRIPT.play("promise 25", family + """
            leaves 0 -> 3
            leaves 1 -> 2
            leaves 4 -> 1
            leaves 5 -> 0
            leaves 2 -> UOE
            leaves 3 -> UOE
            leaves 6 -> IOOBE
            leaves -1 -> IOOBE
            """);
        SCRIPT.play("promise 26", family + """
            missing 0 0 -> 2
            missing 0 1 -> -1
            # 1 takes 2 and 4, 3 takes itself
            missing 0 2 -> 3
            missing 0 10 -> -1
            missing 0 4 -> 3
            missing 0 16 -> 2
            missing 0 24 -> 2
            missing 1 8 -> 2
            missing 1 16 -> 2
            missing 1 4 -> -1
            missing 1 20 -> -1
            missing 4 0 -> 4
            missing 5 0 -> -1
            missing 6 65536 -> IOOBE
            missing 0 -1 -> IAE
            missing 0 65536 -> IAE
            missing 0 64 -> IAE
            missing 0 32 -> 2
            missing 2 64 -> IAE
            missing 2 0 -> UOE
            """);
        SCRIPT.play("promise 27", family + """
            needless 0 0 -> 0
            needless 0 1 -> 0
            needless 0 3 -> 1
            needless 0 6 -> 1
            needless 0 10 -> 0
            # 2 takes 2 and 4, so 4 is needless; 5 takes nothing
            needless 0 20 -> 1
            needless 0 24 -> 0
            needless 0 63 -> 5
            needless 1 8 -> 1
            needless 5 63 -> 6
            needless 6 65536 -> IOOBE
            needless -1 0 -> IOOBE
            needless 0 -1 -> IAE
            needless 0 65536 -> IAE
            needless 0 64 -> IAE
            needless 2 64 -> IAE
            needless 2 0 -> UOE
            """);
        StringBuilder full = new StringBuilder();
        for (int type = 0; type < 16; type++) {
            full.append("addClass c 0 true -> ").append(type).append('\n');
        }
        SCRIPT.play("promises 26 and 27, full", full + """
            missing 15 65535 -> -1
            missing 15 32767 -> 15
            missing 15 65536 -> IAE
            needless 15 65535 -> 15
            needless 15 65536 -> IAE
            leaves 15 -> 1
            """);
    }

    private static void figures() {
        SCRIPT.play("promises 28 to 31", """
            compared -> 0
            addClass t 0 false -> 0
            admittedShare -> 0.0
            meanLine -> 1.0
            addClass c 0 false -> 1
            admittedShare -> 0.5
            addClass c 0 false -> 2
            admittedShare -> 0.6666667
            extend 1 0 -1 -> 2
            meanLine -> 1.3333333333333333
            extend 2 1 -1 -> 3
            meanLine -> 2.0
            define 0 0 a 0 0 -> 1
            define 2 0 v 1 0 -> 1
            admittedShare -> 0.33333334
            lay 0 -1 -> 0
            isBelow 0 0 -> true
            isBelow 0 1 -> NSEE
            lay 1 -1 -> 1
            isBelow 0 1 -> false
            compared -> 2
            isSound -> true
            openScope -1 -> 0
            give 0 1 -1 -1 -> 0
            look 0 0 -> g
            # what other calls compare is not counted
            compared -> 2
            """);
    }
}
