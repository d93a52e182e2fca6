import java.util.ArrayList;
import java.util.List;
import java.util.Map;

/**
 * Plays a run of calls that is written down as text, a line each: the call, its arguments, an
 * arrow, and the answer that is due. An exception is told by the first letters of its name's words.
 * Behind each refused call, all that can be asked is asked, for it may have changed nothing.
 */
final class Script {
    private static final Map<String, String> EXCEPTIONS = Map.of(
            "IAE", "IllegalArgumentException", "ISE", "IllegalStateException",
            "IOOBE", "IndexOutOfBoundsException", "NSEE", "NoSuchElementException",
            "UOE", "UnsupportedOperationException", "AE", "ArithmeticException");

    private int wrong = 0;
    private int played = 0;
    private int refused = 0;

    /** Plays a run on a new program, and on a new model, so that the model is tested as well. */
    void play(String name, String run) {
        Guild program = new Program();
        Model model = new Model();
        List<String> accepted = new ArrayList<>();
        Survey survey = null;
        for (String line : run.split("\n")) {
            if (line.isBlank() || line.startsWith("#")) {
                continue;
            }
            String call = line.split("->")[0];
            if (step(name, program, model, line)) {
                accepted.add(call);
                survey = null;
            } else {
                survey = survey == null ? new Survey(accepted, model) : survey;
                refused++;
                for (String change : survey.changes(call)) {
                    compare(name + ", behind " + call.trim(), change, "changed", "unchanged");
                }
            }
        }
    }

    /** Plays one line and answers whether the call is due to be accepted. */
    private boolean step(String name, Guild program, Guild model, String line) {
        String[] halves = line.split("->");
        if (halves.length != 2) {
            throw new Error(name + ": no answer in: " + line);
        }
        String told = halves[1].trim();
        String due = EXCEPTIONS.getOrDefault(told, told);
        compare(name, line, ask(program, halves[0]), due);
        compare(name + ", model", line, ask(model, halves[0]), due);
        return !EXCEPTIONS.containsKey(told);
    }

    private void compare(String name, String line, String got, String due) {
        played++;
        if (!due.equals(got)) {
            wrong++;
            System.out.println(name + ": " + line.trim() + ", but the answer is " + got);
        }
    }

    /** Asks a call that is written down; words that are no numbers stand for a sign or a boolean. */
    static String ask(Guild guild, String line) {
        String[] words = line.trim().split("\\s+");
        int[] arguments = new int[words.length - 1];
        for (int at = 0; at < arguments.length; at++) {
            arguments[at] = argument(words[0], at, words[at + 1]);
        }
        return guild.ask(words[0], arguments);
    }

    private static int argument(String call, int at, String word) {
        boolean isSign = call.equals("addClass") && at < 2 || call.equals("define") && at == 2;
        if (isSign && word.length() == 1) {
            return word.charAt(0);
        }
        if (word.equals("true") || word.equals("false")) {
            return word.equals("true") ? 1 : 0;
        }
        return Integer.parseInt(word);
    }

    void close(String name) {
        System.out.println(name + ": " + played + " answers, " + refused + " refused calls, " + wrong + " wrong");
        if (wrong > 0 || played == 0) {
            System.exit(1);
        }
    }
}
