import java.nio.file.Files;
import java.nio.file.Path;
import java.util.ArrayList;
import java.util.List;

/**
 * A run for each sentence of "What it is" and of the document's terms, which stands ahead of it
 * word by word. With the path of the document as an argument, it also tells each sentence there
 * that has no run here, and each run here whose sentence does not stand there.
 */
public final class SentenceTest {
    private static final Script SCRIPT = new Script();
    private static final List<String> SAID = new ArrayList<>();

    public static void main(String[] arguments) throws Exception {
        whole();
        beginning();
        classes();
        lines();
        types();
        bases();
        comparing();
        methods();
        admitted();
        fields();
        givens();
        finding();
        deepNeeds();
        matches();
        exceptions();
        if (arguments.length > 0) {
            compareWith(Files.readString(Path.of(arguments[0])));
        }
        SCRIPT.close("SentenceTest");
    }

    private static void says(String sentence, String... run) {
        SAID.add(sentence);
        SCRIPT.play(sentence, String.join("\n", run));
    }

    private static String times(int count, String line) {
        return (line + "\n").repeat(count);
    }

    /** Lines, for each of which '#' is put with a rising number, from one on and before another. */
    private static String counted(int from, int to, String line) {
        StringBuilder run = new StringBuilder();
        for (int number = from; number < to; number++) {
            run.append(line.replace("#", "" + number)).append('\n');
        }
        return run.toString();
    }

    /** The four calls for a type at a place: what look says, which given is found, and how many are used. */
    private static String found(String place, int given, int used) {
        return "look " + place + " -> g\nfind " + place + " -> " + given + "\nfindAnew " + place + " -> " + given
            + "\nused " + place + " -> " + used + "\n";
    }

    private static String none(String place, String look) {
        return "look " + place + " -> " + look + "\nfind " + place + " -> UOE\nfindAnew " + place
            + " -> UOE\nused " + place + " -> UOE\n";
    }

    private static void compareWith(String document) {
        List<String> there = new ArrayList<>();
        for (String part : List.of("What it is", "Terms")) {
            String text = document.split("## " + part + "\n")[1].split("\n## ")[0].replaceAll("\\s+", " ").trim();
            for (String sentence : text.split("(?<=\\.) ")) {
                if (sentence.contains(" ") && !sentence.startsWith("Ahead of the calls")) {
                    there.add(sentence);
                }
            }
        }
        there.stream().filter(one -> !SAID.contains(one)).forEach(one -> System.out.println("no run: " + one));
        SAID.stream().filter(one -> !there.contains(one)).forEach(one -> System.out.println("not there: " + one));
        System.out.println(there.size() + " sentences there, " + SAID.size() + " here");
    }

    // What it is

    private static void whole() {
        says("A guild for a small language with traits in a line and givens: classes and traits stand in one line of "
            + "parents, methods call the next one along the line or another one, fields are set from the far end of the "
            + "line and are 0 when they are seen too early, types are compared by the variance of their parameters, "
            + "givens are found by scopes and companions and by what they need themselves, and matches are asked whether "
            + "they leave something out.", """
            addClass t 0 true -> 0
            addClass t 0 false -> 1
            addClass c 0 false -> 2
            addClass c - false -> 3
            extend 1 0 -1 -> 2
            extend 2 1 -1 -> 3
            lineAt 2 0 -> 2
            lineAt 2 1 -> 1
            lineAt 2 2 -> 0
            # the next one along the line, and another one
            define 0 0 v 40 0 -> 1
            define 1 0 s 2 0 -> 1
            define 2 1 o 8 0 -> 1
            call 2 1 -> 50
            # 1 is set behind 2, and sees its field before that
            defineField 2 5 6 -1 -> 1
            defineField 1 4 3 5 -> 1
            fieldOf 2 4 -> 3
            fieldOf 2 5 -> 6
            variable -> 0
            lay 0 -1 -> 1
            lay 2 -1 -> 2
            lay 3 1 -> 3
            lay 3 2 -> 4
            lay 3 0 -> 5
            isBelow 3 4 -> true
            isBelow 4 3 -> false
            openScope -1 -> 0
            giveBeside 1 2 -1 -1 -> 0
            give 0 5 0 -1 -> 1
            find 0 2 -> 0
            # 3[2] by the one in the scope, which needs 2
            find 0 4 -> 1
            used 0 4 -> 2
            missing 0 0 -> 2
            missing 0 2 -> -1
            """);
        says("An object is used for at most 512 calls after it has been made; what later calls answer is free.",
            "addClass c 0 false -> 0\nlay 0 -1 -> 0\nopenScope -1 -> 0\ngive 0 0 -1 -1 -> 0\ndefine 0 0 v 7 0 -> 1",
            times(100, "look 0 0 -> g\nused 0 0 -> 1\ncall 0 0 -> 7\nisBelow 0 0 -> true\ncallAnew 0 0 -> 7"),
            "admittedShare -> 1.0\nmeanLine -> 1.0\ndefine 0 0 o 1 0 -> 1\ncall 0 0 -> UOE\nfindAnew 0 0 -> 0",
            "isSound -> true\ncompared -> 100");
    }

    private static void beginning() {
        says("Classes, members, types, scopes, givens and cases come by calls; lines, values, comparisons, givens and "
            + "what is left out are asked.", """
            addClass c 0 true -> 0
            lineSize 0 -> 1
            define 0 3 v 6 0 -> 1
            call 0 3 -> 6
            defineField 0 3 8 -1 -> 1
            fieldOf 0 3 -> 8
            lay 0 -1 -> 0
            isBelow 0 0 -> true
            openScope -1 -> 0
            give 0 0 -1 -1 -> 0
            find 0 0 -> 0
            missing 0 1 -> -1
            missing 0 0 -> 0
            """);
        says("What a call finds by the line is also found by going through the parents again, and a given that is found "
            + "also by trying all of them in another order.", """
            addClass t 0 false -> 0
            addClass t 0 false -> 1
            addClass t 0 false -> 2
            addClass t 0 false -> 3
            addClass c 0 false -> 4
            extend 1 0 -1 -> 2
            extend 2 0 -1 -> 2
            extend 3 1 -1 -> 3
            extend 3 2 -1 -> 4
            extend 4 2 -1 -> 3
            extend 4 3 -1 -> 5
            # the row of 4 is 2 0, and ahead of it 3 1
            define 0 0 v 1 0 -> 1
            define 2 0 s 10 0 -> 1
            define 1 0 v 50 0 -> 1
            define 3 0 s 3 0 -> 1
            define 4 0 s 5 0 -> 1
            call 4 0 -> 58
            callAnew 4 0 -> 58
            define 1 0 s 50 0 -> 1
            call 4 0 -> 69
            callAnew 4 0 -> 69
            lay 4 -1 -> 0
            lay 2 -1 -> 1
            openScope -1 -> 0
            give 0 0 -1 -1 -> 0
            giveBeside 2 1 -1 -1 -> 1
            find 0 1 -> 0
            findAnew 0 1 -> 0
            give 0 1 -1 -1 -> 2
            find 0 1 -> UOE
            findAnew 0 1 -> UOE
            find 0 0 -> 0
            findAnew 0 0 -> 0
            """);
        says("No call that is admitted finds no member, and the given that is chosen does not depend on the order.", """
            addClass t = false -> 0
            addClass c 0 false -> 1
            define 1 2 s 4 0 -> 1
            call 1 2 -> ISE
            define 1 2 o 4 6 -> 1
            call 1 2 -> ISE
            define 1 6 a 0 0 -> 2
            call 1 2 -> ISE
            define 1 6 v 9 0 -> 2
            call 1 2 -> 13
            variable -> 0
            lay 1 -1 -> 1
            lay 0 0 -> 2
            lay 0 1 -> 3
            openScope -1 -> 0
            openScope -1 -> 1
            # the same three, in one order and in the other
            give 0 3 -1 -1 -> 0
            give 0 2 -1 -1 -> 1
            give 0 3 1 -1 -> 2
            give 1 3 1 -1 -> 3
            give 1 2 -1 -1 -> 4
            give 1 3 -1 -1 -> 5
            """, found("0 3", 0, 1), found("1 3", 5, 1));
    }

    // Classes and lines

    private static void classes() {
        says("At most 16 classes exist, numbered from 0; each is a trait, 't', or a class, 'c', sealed or not, and has a "
            + "parameter of the variance '+', '-' or '=', or none, '0'.", """
            addClass t + true -> 0
            addClass t - true -> 1
            addClass t = true -> 2
            addClass t 0 true -> 3
            addClass t + false -> 4
            addClass t - false -> 5
            addClass t = false -> 6
            addClass t 0 false -> 7
            addClass c + true -> 8
            addClass c - true -> 9
            addClass c = true -> 10
            addClass c 0 true -> 11
            addClass c + false -> 12
            addClass c - false -> 13
            addClass c = false -> 14
            addClass c 0 false -> 15
            addClass c 0 false -> ISE
            """, counted(0, 4, "leaves # -> 0"), counted(4, 8, "leaves # -> UOE"), counted(8, 12, "leaves # -> 1"),
            counted(12, 16, "leaves # -> UOE"), counted(0, 8, "isAdmitted # -> false"),
            counted(8, 16, "isAdmitted # -> true"), """
            lay 7 -1 -> 0
            lay 11 -1 -> 1
            lay 3 -1 -> 2
            lay 15 -1 -> 3
            lay 0 -1 -> IAE
            lay 5 -1 -> IAE
            lay 10 -1 -> IAE
            lay 12 -1 -> IAE
            """);
        says("A class has at most 3 parents, which are classes with lower numbers, in the order in which they were told; "
            + "a parent with a parameter has an argument, which is the parameter of the class, or a type without the "
            + "variable.", """
            addClass t 0 false -> 0
            addClass t = false -> 1
            addClass t = false -> 2
            addClass t 0 false -> 3
            addClass c = false -> 4
            addClass c = false -> 5
            variable -> 0
            lay 0 -1 -> 1
            lay 2 0 -> 2
            extend 4 5 1 -> IAE
            extend 4 1 -1 -> IAE
            extend 4 1 0 -> IAE
            extend 4 1 2 -> IAE
            extend 4 0 1 -> IAE
            extend 4 1 -2 -> 2
            extend 4 2 1 -> 3
            extend 4 0 -1 -> 4
            extend 4 3 -1 -> ISE
            # told last, asked first
            lineAt 4 1 -> 0
            lineAt 4 2 -> 2
            lineAt 4 3 -> 1
            lay 4 1 -> 3
            lay 4 3 -> 4
            # the parameter of 4 is the argument of 1: 31 * 3 + (31 * 6 + 2); that of 2 is 0, whatever it is
            base 4 1 -> 281
            base 4 2 -> 126
            base 3 2 -> 126
            extend 5 3 -1 -> 2
            extend 5 0 -1 -> 3
            lineAt 5 1 -> 0
            lineAt 5 2 -> 3
            """);
    }

    private static void lines() {
        says("The line of a class consists of itself, and behind it a row of its parents, which begins as the line of "
            + "the first parent; for each parent behind it, in their order, those of its line that are not in the row "
            + "yet are put ahead of the row, in the order of that line.", counted(0, 6, "addClass t 0 false -> #"), """
            addClass c 0 false -> 6
            addClass c 0 false -> 7
            # 3 is 3 0, 4 is 4 1 0, 5 is 5 3 2 0
            extend 3 0 -1 -> 2
            extend 4 0 -1 -> 2
            extend 4 1 -1 -> 3
            extend 5 0 -1 -> 2
            extend 5 2 -1 -> 3
            extend 5 3 -1 -> 4
            lineAt 5 0 -> 5
            lineAt 5 1 -> 3
            lineAt 5 2 -> 2
            lineAt 5 3 -> 0
            # 6: 3 0, then 4 1 ahead of it, then 5 2 ahead of those
            extend 6 3 -1 -> 3
            extend 6 4 -1 -> 5
            extend 6 5 -1 -> 7
            lineAt 6 0 -> 6
            lineAt 6 1 -> 5
            lineAt 6 2 -> 2
            lineAt 6 3 -> 4
            lineAt 6 4 -> 1
            lineAt 6 5 -> 3
            lineAt 6 6 -> 0
            # 7: the same parents the other way round: 5 3 2 0, then 4 1, then nothing
            extend 7 5 -1 -> 5
            extend 7 4 -1 -> 7
            extend 7 3 -1 -> 7
            lineAt 7 0 -> 7
            lineAt 7 1 -> 4
            lineAt 7 2 -> 1
            lineAt 7 3 -> 5
            lineAt 7 4 -> 3
            lineAt 7 5 -> 2
            lineAt 7 6 -> 0
            isSound -> true
            """);
    }

    // Types, bases and comparing

    private static void types() {
        says("At most 120 nodes exist, numbered from 0.", "addClass c 0 false -> 0\naddClass c + false -> 1",
            "lay 0 -1 -> 0\nvariable -> 1\nlay 1 1 -> 2", counted(3, 120, "lay 1 0 -> #"),
            "lay 1 0 -> ISE\nvariable -> ISE\nnumber 119 -> 95\nnumber 120 -> NSEE");
        says("Each one is a type: the variable, or a class with an argument, if it has a parameter, which is another "
            + "node.", """
            addClass t - false -> 0
            addClass t 0 false -> 1
            lay 0 0 -> NSEE
            variable -> 0
            lay 0 0 -> 1
            lay 0 2 -> NSEE
            lay 0 -1 -> IAE
            lay 1 0 -> IAE
            lay 1 -1 -> 2
            number 0 -> 1
            number 1 -> 63
            number 2 -> 3
            """);
        says("Two nodes with the same parts, as far as they go, are the same type.", """
            addClass t = false -> 0
            addClass t + false -> 1
            addClass c 0 false -> 2
            addClass c 0 false -> 3
            addClass c = false -> 4
            lay 2 -1 -> 0
            lay 2 -1 -> 1
            lay 3 -1 -> 2
            lay 1 0 -> 3
            lay 1 1 -> 4
            lay 1 2 -> 5
            lay 0 3 -> 6
            lay 0 4 -> 7
            lay 0 5 -> 8
            isBelow 6 7 -> true
            isBelow 7 6 -> true
            isBelow 6 8 -> false
            isBelow 8 7 -> false
            # an argument and its class alone are not the same, as one goes farther
            lay 1 3 -> 9
            lay 0 9 -> 10
            isBelow 6 10 -> false
            isBelow 10 6 -> false
            # a parent again with a type that is the same makes no unlike bases
            addClass c = false -> 5
            extend 4 0 3 -> 2
            extend 5 4 -2 -> 3
            extend 5 0 5 -> UOE
            extend 5 0 4 -> 3
            """);
        says("The depth of the variable and of a class without an argument is 1, of another one 1 more than that of its "
            + "argument; it is at most 6.", """
            addClass t = false -> 0
            addClass c 0 false -> 1
            variable -> 0
            lay 1 -1 -> 1
            lay 0 0 -> 2
            lay 0 1 -> 3
            lay 0 2 -> 4
            lay 0 3 -> 5
            lay 0 4 -> 6
            lay 0 5 -> 7
            lay 0 6 -> 8
            lay 0 7 -> 9
            lay 0 8 -> 10
            lay 0 9 -> 11
            # 10 and 11 are of the depth 6
            lay 0 10 -> ISE
            lay 0 11 -> ISE
            number 10 -> 311
            number 11 -> 313
            """);
        says("A type without the variable is closed.", """
            addClass t + false -> 0
            addClass c 0 false -> 1
            variable -> 0
            lay 0 0 -> 1
            lay 0 1 -> 2
            lay 1 -1 -> 3
            lay 0 3 -> 4
            isBelow 0 0 -> IAE
            isBelow 1 1 -> IAE
            isBelow 2 2 -> IAE
            isBelow 3 3 -> true
            isBelow 4 4 -> true
            base 2 0 -> IAE
            base 4 0 -> 65
            """);
        says("The number of the variable is 1, of a class 2 plus its number, and with an argument 31 times that plus the "
            + "number of the argument, of which the remainder is taken when it is divided by 1000003.",
            counted(0, 15, "addClass t 0 false -> #"), """
            addClass t - false -> 15
            variable -> 0
            lay 0 -1 -> 1
            lay 9 -1 -> 2
            lay 14 -1 -> 3
            lay 15 0 -> 4
            lay 15 2 -> 5
            lay 15 5 -> 6
            lay 15 6 -> 7
            lay 15 7 -> 8
            lay 15 8 -> 9
            number 0 -> 1
            number 1 -> 2
            number 2 -> 11
            number 3 -> 16
            # 31 * 17 is 527
            number 4 -> 528
            number 5 -> 538
            number 6 -> 1065
            number 9 -> 2646
            base 9 15 -> 2646
            """);
    }

    private static void bases() {
        says("The base of a closed type at a class of the line of its class is: the type itself at its own class; "
            + "otherwise, for each of its parents that has this class in its line, the base of that parent there, where "
            + "the argument of the type stands for the parameter.", """
            addClass t = false -> 0
            addClass t 0 false -> 1
            addClass t = false -> 2
            addClass c = false -> 3
            addClass c 0 false -> 4
            lay 1 -1 -> 0
            lay 4 -1 -> 1
            lay 0 0 -> 2
            # 2[X] is 0[X] and 1; 3[X] is 2[X]; 4 is 3[0[1]]
            extend 2 0 -2 -> 2
            extend 2 1 -1 -> 3
            extend 3 2 -2 -> 4
            extend 4 3 2 -> 5
            lay 3 1 -> 3
            number 3 -> 161
            base 3 3 -> 161
            base 3 2 -> 130
            base 3 0 -> 68
            base 3 1 -> 3
            base 3 4 -> UOE
            # 0[1] has the number 65
            base 1 4 -> 6
            base 1 3 -> 220
            base 1 2 -> 189
            base 1 0 -> 127
            base 1 1 -> 3
            base 0 1 -> 3
            """);
        says("All of these are the same: a parent that would make two unlike ones for a class is refused.", """
            addClass t = false -> 0
            addClass t = false -> 1
            addClass t = false -> 2
            addClass c = false -> 3
            addClass c 0 false -> 4
            addClass c 0 false -> 5
            lay 4 -1 -> 0
            lay 5 -1 -> 1
            lay 0 0 -> 2
            extend 1 0 -2 -> 2
            extend 2 0 0 -> 2
            # 3[X] would be 0[X] by 1 and 0[4] by 2, which differ unless X is 4
            extend 3 1 -2 -> 3
            extend 3 2 -2 -> UOE
            extend 3 2 0 -> UOE
            lineSize 3 -> 3
            lay 3 0 -> 3
            base 3 0 -> 68
            base 3 2 -> UOE
            # 4 would be 0[5] by 1 and 0[4] by 2; with 1[4] both are 0[4]
            extend 4 2 1 -> 3
            extend 4 1 1 -> UOE
            extend 4 1 2 -> UOE
            extend 4 1 0 -> 4
            base 0 0 -> 68
            base 0 1 -> 99
            base 0 2 -> 131
            # at 0 itself as well
            extend 5 0 1 -> 2
            extend 5 2 1 -> UOE
            extend 5 1 0 -> UOE
            extend 5 1 1 -> 3
            lineAt 5 1 -> 1
            """);
    }

    private static void comparing() {
        says("A closed type is below another one if the class of the other one is in the line of its class, and, if that "
            + "has a parameter, the argument of the base there and that of the other one fit: for '+', the first one is "
            + "below the second one; for '-', the second one is below the first one; for '=', both are the same.", """
            addClass t 0 false -> 0
            addClass c 0 false -> 1
            addClass t + false -> 2
            addClass t - false -> 3
            addClass t = false -> 4
            addClass c = false -> 5
            extend 1 0 -1 -> 2
            lay 0 -1 -> 0
            lay 1 -1 -> 1
            # 5[X] is 2[X], 3[X] and 4[X]
            extend 5 2 -2 -> 2
            extend 5 3 -2 -> 3
            extend 5 4 -2 -> 4
            lay 5 0 -> 2
            lay 5 1 -> 3
            lay 2 0 -> 4
            lay 2 1 -> 5
            lay 3 0 -> 6
            lay 3 1 -> 7
            lay 4 0 -> 8
            lay 4 1 -> 9
            isBelow 2 4 -> true
            isBelow 2 5 -> false
            isBelow 3 4 -> true
            isBelow 3 5 -> true
            isBelow 2 6 -> true
            isBelow 2 7 -> true
            isBelow 3 6 -> false
            isBelow 3 7 -> true
            isBelow 2 8 -> true
            isBelow 2 9 -> false
            isBelow 3 8 -> false
            isBelow 3 9 -> true
            isBelow 2 3 -> false
            isBelow 4 2 -> false
            isBelow 4 6 -> false
            # a class without a parameter asks for nothing more
            addClass c + false -> 6
            extend 6 0 -1 -> 2
            lay 6 1 -> 10
            isBelow 10 0 -> true
            isBelow 0 10 -> false
            isBelow 10 1 -> false
            compared -> 18
            """);
        says("What is asked again while it is being found is taken to be so.", """
            addClass t - false -> 0
            addClass c 0 false -> 1
            addClass c 0 false -> 2
            lay 1 -1 -> 0
            lay 2 -1 -> 1
            lay 0 0 -> 2
            lay 0 1 -> 3
            # 1 is 0[0[2]], 2 is 0[0[1]]
            extend 1 0 3 -> 2
            extend 2 0 2 -> 2
            # 1 below 0[1]: 1 below 0[2], 2 below 0[2], 2 below 0[1], 1 below 0[1] again
            isBelow 0 2 -> true
            isBelow 1 3 -> true
            isBelow 0 3 -> true
            isBelow 1 2 -> true
            # 0[2] is not in a line of 1: nothing is asked again
            isBelow 0 1 -> false
            isBelow 2 0 -> false
            isSound -> true
            """);
    }

    // Members

    private static void methods() {
        says("There are the methods 0 to 7.", "addClass c 0 false -> 0",
            "define 0 -1 v 1 0 -> IAE\ndefine 0 8 v 1 0 -> IAE\ndefine 0 0 o 1 8 -> IAE\ndefine 0 0 o 1 -1 -> IAE",
            """
            define 0 0 v 10 0 -> 1
            define 0 7 v 17 0 -> 2
            define 0 1 v 11 0 -> 3
            define 0 2 v 12 0 -> 4
            define 0 3 v 13 0 -> 5
            define 0 4 v 14 0 -> 6
            define 0 5 v 15 0 -> 7
            define 0 6 v 16 0 -> 8
            """,
            counted(0, 8, "call 0 # -> 1#"), "call 0 8 -> IAE\ncall 0 -1 -> IAE\ndefiner 0 8 -> IAE");
        says("A class can define each of them, in place of an earlier definition: abstract, 'a'; as a number, 'v'; as "
            + "what the next definition along the line gives, plus a number, 's'; or as what another method gives, plus "
            + "a number, 'o'.", """
            addClass t 0 false -> 0
            addClass c 0 false -> 1
            extend 1 0 -1 -> 2
            define 0 0 v 20 0 -> 1
            define 0 1 v 30 0 -> 2
            define 1 0 v 5 0 -> 1
            call 1 0 -> 5
            define 1 0 s 5 0 -> 1
            call 1 0 -> 25
            define 1 0 o 5 1 -> 1
            call 1 0 -> 35
            define 1 0 a 5 1 -> 1
            call 1 0 -> 20
            define 1 0 s 99 1 -> 1
            call 1 0 -> 119
            define 1 0 v 0 1 -> 1
            call 1 0 -> 0
            """);
        says("In the line of the class for which a method is called, the first definition counts that is not abstract; "
            + "the next one along the line is the first one behind it that is not abstract.", """
            addClass t 0 false -> 0
            addClass t 0 false -> 1
            addClass t 0 false -> 2
            addClass t 0 false -> 3
            addClass c 0 false -> 4
            extend 4 2 -1 -> 2
            extend 3 0 -1 -> 2
            extend 3 1 -1 -> 3
            extend 4 3 -1 -> 5
            # the line of 4 is 4 3 1 0 2
            define 4 6 a 0 0 -> 1
            define 3 6 s 1 0 -> 1
            define 1 6 a 0 0 -> 1
            define 0 6 s 2 0 -> 1
            define 2 6 v 4 0 -> 1
            definer 4 6 -> 3
            call 4 6 -> 7
            callAnew 4 6 -> 7
            define 1 6 v 8 0 -> 1
            call 4 6 -> 9
            define 4 6 s 16 0 -> 1
            definer 4 6 -> 4
            call 4 6 -> 25
            # 'o' asks from the front of the same line, even from behind
            define 2 5 o 32 6 -> 2
            call 4 5 -> 57
            """);
    }

    private static void admitted() {
        says("A class is admitted if it is a class, 'c', each method that is defined in its line has a definition there "
            + "that is not abstract, and each definition there that is not abstract finds what it asks for: 's' a next "
            + "one, 'o' a definition of the other method that is not abstract.", """
            addClass t 0 false -> 0
            addClass t 0 false -> 1
            addClass c 0 false -> 2
            addClass c 0 false -> 3
            extend 2 0 -1 -> 2
            extend 2 1 -1 -> 3
            extend 3 1 -1 -> 2
            isAdmitted 0 -> false
            isAdmitted 2 -> true
            define 1 0 s 1 0 -> 1
            isAdmitted 2 -> false
            isAdmitted 3 -> false
            # behind 1 in the line of 2, and not in that of 3
            define 0 0 v 1 0 -> 1
            isAdmitted 2 -> true
            isAdmitted 3 -> false
            # ahead of 1 in the line of 3: it is no next one
            define 3 0 v 1 0 -> 1
            isAdmitted 3 -> false
            define 1 0 o 1 7 -> 1
            isAdmitted 2 -> false
            define 3 7 v 1 0 -> 2
            isAdmitted 3 -> true
            isAdmitted 2 -> false
            define 2 7 a 0 0 -> 1
            isAdmitted 2 -> false
            define 0 7 v 1 0 -> 2
            isAdmitted 2 -> true
            # defined abstract, and nowhere else
            define 1 4 a 0 0 -> 2
            isAdmitted 2 -> false
            isAdmitted 3 -> false
            define 2 4 v 1 0 -> 2
            isAdmitted 2 -> true
            isAdmitted 3 -> false
            admittedShare -> 0.25
            """);
    }

    private static void fields() {
        says("There are the fields 0 to 7.", "addClass t 0 false -> 0",
            "defineField 0 -1 1 -1 -> IAE\ndefineField 0 8 1 -1 -> IAE\ndefineField 0 0 1 8 -> IAE",
            """
            defineField 0 0 10 -1 -> 1
            defineField 0 7 17 -1 -> 2
            defineField 0 1 11 -1 -> 3
            defineField 0 2 12 -1 -> 4
            defineField 0 3 13 -1 -> 5
            defineField 0 4 14 -1 -> 6
            defineField 0 5 15 -1 -> 7
            defineField 0 6 16 -1 -> 8
            """,
            counted(0, 8, "fieldOf 0 # -> 1#"), "fieldOf 0 8 -> IAE\nfieldOf 0 -1 -> IAE");
        says("A class can define each of them, in place of an earlier definition, with a number, and perhaps another "
            + "field.", """
            addClass c 0 false -> 0
            defineField 0 3 9 -1 -> 1
            defineField 0 6 20 -1 -> 2
            fieldOf 0 6 -> 20
            defineField 0 6 21 3 -> 2
            fieldOf 0 6 -> 30
            defineField 0 6 22 -1 -> 2
            fieldOf 0 6 -> 22
            defineField 0 3 7 6 -> 2
            fieldOf 0 3 -> 7
            """);
        says("When a class is made, its fields are 0 at first; then the line is gone through from its end to its front, "
            + "and for each class the fields that it defines are set, by rising numbers: to the number, plus what the "
            + "other field is at that moment.", """
            addClass t 0 false -> 0
            addClass t 0 false -> 1
            addClass c 0 false -> 2
            extend 2 0 -1 -> 2
            extend 2 1 -1 -> 3
            # made in the order 0 1 2
            defineField 0 4 10 7 -> 1
            defineField 0 2 1 4 -> 2
            defineField 0 7 3 2 -> 3
            fieldOf 0 2 -> 1
            fieldOf 0 4 -> 10
            fieldOf 0 7 -> 4
            defineField 1 4 20 7 -> 1
            defineField 1 2 40 4 -> 2
            # 2 is 40 + 10, and only then 4 is 20 + 4
            fieldOf 2 2 -> 50
            fieldOf 2 4 -> 24
            defineField 2 7 50 7 -> 1
            defineField 2 2 60 2 -> 2
            fieldOf 2 7 -> 54
            fieldOf 2 2 -> 110
            fieldOf 2 4 -> 24
            fieldOf 1 2 -> 40
            fieldOf 1 4 -> 20
            fieldOf 1 7 -> NSEE
            """);
    }

    // Scopes and givens

    private static void givens() {
        says("At most 5 scopes exist, numbered from 0; each lies in an earlier one or in none.", """
            openScope 0 -> IOOBE
            openScope -1 -> 0
            openScope 0 -> 1
            openScope 2 -> IOOBE
            openScope 0 -> 2
            openScope 2 -> 3
            openScope -1 -> 4
            openScope -1 -> ISE
            openScope 4 -> ISE
            """);
        says("At most 10 givens exist, numbered from 0; each stands in a scope or in the companion of a class, has a "
            + "result, which is a type but not the variable, and needs at most two types, which have the variable only "
            + "if the result has it.", """
            addClass t = false -> 0
            addClass c 0 false -> 1
            openScope -1 -> 0
            variable -> 0
            lay 1 -1 -> 1
            lay 0 0 -> 2
            lay 0 1 -> 3
            give 0 0 -1 -1 -> IAE
            giveBeside 0 0 -1 -1 -> IAE
            give 0 3 2 -1 -> IAE
            giveBeside 0 3 1 0 -> IAE
            give 0 3 1 1 -> 0
            giveBeside 0 2 0 2 -> 1
            give 0 2 1 -1 -> 2
            giveBeside 1 1 -1 3 -> 3
            """, counted(4, 10, "give 0 3 -1 -1 -> #"), "give 0 3 -1 -1 -> ISE\ngiveBeside 1 3 -1 -1 -> ISE");
        says("For a closed type that is asked for, a given fits if its result is closed and below that type, or if its "
            + "result becomes that type by putting one type for the variable; then it needs its own types, in which this "
            + "type is put for the variable.", """
            addClass t + false -> 0
            addClass c 0 false -> 1
            addClass c 0 false -> 2
            addClass c + false -> 3
            extend 2 1 -1 -> 2
            extend 3 0 -2 -> 2
            openScope -1 -> 0
            openScope -1 -> 1
            variable -> 0
            lay 1 -1 -> 1
            lay 2 -1 -> 2
            lay 0 1 -> 3
            lay 3 1 -> 4
            lay 3 2 -> 5
            lay 0 0 -> 6
            lay 3 0 -> 7
            lay 0 6 -> 8
            lay 0 3 -> 9
            # 3[2] is below 0[1] by its class and by its argument
            give 0 5 -1 -1 -> 0
            """, found("0 3", 0, 1), found("0 4", 0, 1), found("0 5", 0, 1), none("0 1", "n"), """
            # 3[X] becomes 3[1], and not 0[1]; 0[0[X]] becomes 0[0[1]] and not 0[1]
            give 1 7 -1 -1 -> 1
            """, found("1 4", 1, 1), none("1 3", "n"), "give 1 8 7 0 -> 2", none("1 9", "n"), none("1 3", "n"), """
            # it needs 3[1] and 1, as 1 is put for the variable
            give 1 1 -1 -1 -> 3
            """, found("1 9", 2, 3), none("1 2", "n"));
    }

    private static void finding() {
        String begin = """
            addClass t 0 false -> 0
            addClass c 0 false -> 1
            addClass c = false -> 2
            addClass c 0 false -> 3
            extend 1 0 -1 -> 2
            openScope -1 -> 0
            openScope 0 -> 1
            openScope 1 -> 2
            openScope 0 -> 3
            variable -> 0
            lay 1 -1 -> 1
            lay 2 1 -> 2
            lay 2 0 -> 3
            lay 3 -1 -> 4
            lay 2 4 -> 5
            """;
        says("A type is looked for in a scope in levels: the scope itself, then the ones in which it lies, from the "
            + "inside; and last, as one level, the companions of all classes that stand in the type and of those in "
            + "their lines.", begin, "giveBeside 3 2 -1 -1 -> 0", none("2 2", "n"), "giveBeside 0 2 -1 -1 -> 1",
            found("2 2", 1, 1), "giveBeside 2 3 -1 -1 -> 2", found("2 2", 1, 1), found("2 5", 2, 1),
            "giveBeside 1 2 -1 -1 -> 3", none("2 2", "a"), "give 0 3 -1 -1 -> 4", found("2 2", 4, 1),
            found("3 2", 4, 1), "give 1 3 -1 -1 -> 5", found("2 2", 5, 1), found("1 2", 5, 1), found("3 2", 4, 1),
            "give 2 3 -1 -1 -> 6", found("2 2", 6, 1), found("1 2", 5, 1), found("0 2", 4, 1));
        says("At a level, those givens count that fit, and for each of whose needs a given is found in the same scope; "
            + "the first level at which some count decides.", begin,
            // what stands in 0 and in a companion finds in 2 what is not found in 0
            "give 0 2 4 -1 -> 0", none("2 2", "n"), "give 2 4 -1 -1 -> 1", found("2 2", 0, 2), none("1 2", "n"),
            none("0 2", "n"), "giveBeside 3 5 2 -1 -> 2", found("2 5", 2, 3), none("1 5", "n"), none("3 5", "n"),
            // one that fits but does not count leaves its level to the next
            "give 1 2 1 -1 -> 3", found("2 2", 0, 2), "give 2 1 -1 -1 -> 4", found("2 2", 3, 2), none("1 2", "n"),
            "give 0 1 -1 -1 -> 5", found("1 2", 3, 2), none("0 2", "n"), "give 1 1 -1 -1 -> 6",
            "give 1 1 -1 -1 -> 7", none("1 2", "n"), found("2 2", 3, 2));
        says("If one alone counts there, or one alone of those that count has a closed result, that one is found; "
            + "otherwise the type is ambiguous, and no given is found for it.", begin, "give 0 3 -1 -1 -> 0",
            found("0 2", 0, 1), "give 0 3 -1 -1 -> 1", none("0 2", "a"), "give 0 2 -1 -1 -> 2", found("0 2", 2, 1),
            "give 0 2 4 -1 -> 3", found("0 2", 2, 1), none("0 5", "a"), "give 0 4 -1 -1 -> 4", none("0 2", "a"),
            // what needs it finds nothing, at its own level or behind it
            "give 0 1 2 -1 -> 5", none("0 1", "n"), "giveBeside 1 1 -1 -1 -> 6", found("0 1", 6, 1));
    }

    private static void deepNeeds() {
        String begin = counted(0, 5, "addClass c 0 false -> #") + counted(0, 5, "lay # -1 -> #") + """
            openScope -1 -> 0
            openScope 0 -> 1
            give 0 0 1 -1 -> 0
            give 0 1 2 -1 -> 1
            give 0 2 3 -1 -> 2
            give 0 3 -1 -1 -> 3
            """;
        says("A type that is needed below 3 others, for what one of them needs, is not found.", begin, none("0 0", "n"),
            found("0 1", 1, 3), found("0 2", 2, 2), found("0 3", 3, 1),
            // another one of 2 that needs nothing counts alone below the others, and not for itself
            "give 0 2 -1 -1 -> 4", found("0 0", 0, 3), none("0 2", "a"), none("0 1", "n"));
        says("A type that is asked for, one that is needed for it, and one that is needed for that can be found; one "
            + "that is needed for the last one of these is not.", begin,
            // 4 needs 2 and 3: 2 can be found below it, and 3 below that as well
            "give 0 4 3 2 -> 4", found("0 4", 4, 4), "give 1 0 4 -1 -> 5", none("1 0", "n"), found("1 4", 4, 4),
            "give 1 0 2 3 -> 6", found("1 0", 6, 4));
    }

    // Matches and exceptions

    private static void matches() {
        String begin = """
            addClass t 0 true -> 0
            addClass c 0 true -> 1
            addClass c 0 false -> 2
            addClass t 0 false -> 3
            addClass c 0 false -> 4
            addClass c 0 false -> 5
            extend 1 0 -1 -> 2
            extend 2 0 -1 -> 2
            extend 3 0 -1 -> 2
            extend 4 3 -1 -> 3
            extend 4 2 -1 -> 4
            """;
        says("The leaves of a sealed class are the classes 'c' in whose lines it is, by rising numbers.", begin,
            "leaves 0 -> 3\nleaves 1 -> 1\nleaves 3 -> UOE\nleaves 5 -> UOE",
            "missing 0 0 -> 1\nmissing 0 2 -> 2\nmissing 0 6 -> -1\nmissing 0 4 -> 1\nmissing 0 10 -> 2",
            "extend 5 1 -1 -> 3\nleaves 0 -> 4\nleaves 1 -> 2\nmissing 1 32 -> 1\nmissing 1 2 -> -1");
        says("A case is a class; it takes the leaves in whose lines it is.", begin,
            "missing 0 1 -> -1\nmissing 0 22 -> -1\nmissing 0 14 -> -1\nmissing 0 26 -> 2\nmissing 0 38 -> -1",
            "needless 0 8 -> 0\nneedless 0 32 -> 1\nmissing 1 1 -> -1\nmissing 1 28 -> 1\nneedless 1 28 -> 3");
        says("Cases are told as a sum of 2 to the power of each of their numbers, and are tried by rising numbers.", begin,
            // of 3 and 4 the second one is needless, of 2 and 3 too, of 0 and any other one that
            "needless 0 24 -> 1\nneedless 0 12 -> 1\nneedless 0 9 -> 1\nneedless 0 63 -> 5\nneedless 0 62 -> 3",
            "needless 0 64 -> IAE\nmissing 0 64 -> IAE\nneedless 0 -1 -> IAE\nmissing 0 65536 -> IAE\nneedless 0 0 -> 0");
    }

    private static void exceptions() {
        says("A method that throws an exception changes nothing.", """
            addClass t 0 true -> 0
            addClass c 0 false -> 1
            addClass c = false -> 2
            extend 1 1 -1 -> IAE
            extend 1 0 -1 -> 2
            extend 1 0 -1 -> ISE
            lineSize 1 -> 2
            define 1 0 v 5 0 -> 1
            define 1 0 v 100 0 -> IAE
            define 1 1 o 1 8 -> IAE
            define 1 2 v 5 0 -> 2
            call 1 0 -> 5
            call 1 1 -> NSEE
            defineField 1 0 5 -1 -> 1
            defineField 1 0 6 8 -> IAE
            fieldOf 1 0 -> 5
            lay 2 -1 -> IAE
            lay 1 -1 -> 0
            isBelow 0 1 -> NSEE
            compared -> 0
            openScope 0 -> IOOBE
            openScope -1 -> 0
            give 0 0 7 -1 -> NSEE
            give 0 0 -1 -1 -> 0
            find 0 0 -> 0
            """);
        says("If several exceptions apply, the one that is documented first is thrown.", """
            addClass t 0 false -> 0
            addClass c = false -> 1
            variable -> 0
            extend 2 1 9 -> IOOBE
            extend 0 1 9 -> NSEE
            extend 0 1 0 -> IAE
            extend 1 0 -1 -> 2
            extend 1 0 0 -> IAE
            extend 1 0 -1 -> ISE
            lineAt 2 9 -> IOOBE
            lay 2 9 -> IOOBE
            lay 0 9 -> NSEE
            base 9 9 -> NSEE
            base 0 9 -> IOOBE
            base 0 1 -> IAE
            isBelow 0 9 -> NSEE
            define 2 9 x 100 9 -> IOOBE
            call 2 9 -> IOOBE
            call 0 9 -> IAE
            call 0 0 -> ISE
            fieldOf 2 9 -> IOOBE
            fieldOf 0 9 -> IAE
            give 0 9 -1 -1 -> IOOBE
            giveBeside 0 9 -1 -1 -> NSEE
            look 0 9 -> IOOBE
            openScope -1 -> 0
            look 0 9 -> NSEE
            find 0 0 -> IAE
            missing 2 65536 -> IOOBE
            missing 0 65536 -> IAE
            missing 0 0 -> UOE
            """);
    }
}
