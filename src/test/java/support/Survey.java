import java.util.ArrayList;
import java.util.List;

/**
 * Tells whether a refused call changed anything: an object that had it is asked all that can be
 * asked, and must answer as one that had it not. An object is used for 512 calls at most, so the
 * questions are asked in parts, each part of an object of its own.
 */
final class Survey {
    private static final int MOST_CALLS = 512;
    private static final int SAMPLE = 9;

    private final List<String> begin;
    private final List<List<String>> parts = new ArrayList<>();
    private final List<List<String>> due = new ArrayList<>();

    /** The accepted calls that lead to a state, and the model in that state, which tells its size. */
    Survey(List<String> accepted, Model model) {
        begin = List.copyOf(accepted);
        int room = MOST_CALLS - begin.size() - 1;
        for (List<String> questions : List.of(ofClasses(model), ofTypes(model), growing(model))) {
            for (int from = 0; from < questions.size() && room > 0; from += room) {
                parts.add(questions.subList(from, Math.min(from + room, questions.size())));
            }
        }
        for (List<String> part : parts) {
            due.add(answers(null, part));
        }
    }

    /** What is answered in another way behind the refused call, or an empty list. */
    List<String> changes(String refused) {
        List<String> all = new ArrayList<>();
        for (int at = 0; at < parts.size(); at++) {
            List<String> got = answers(refused, parts.get(at));
            for (int which = 0; which < got.size(); which++) {
                if (!got.get(which).equals(due.get(at).get(which))) {
                    all.add(parts.get(at).get(which) + " answers " + got.get(which) + " and not "
                        + due.get(at).get(which));
                }
            }
        }
        return all;
    }

    private List<String> answers(String refused, List<String> part) {
        Guild program = new Program();
        for (String line : begin) {
            Script.ask(program, line);
        }
        if (refused != null) {
            Script.ask(program, refused);
        }
        List<String> all = new ArrayList<>();
        for (String line : part) {
            all.add(Script.ask(program, line));
        }
        return all;
    }

    private static List<String> ofClasses(Model model) {
        List<String> all = new ArrayList<>(List.of("compared", "admittedShare", "meanLine", "isSound"));
        for (int type = 0; type <= model.sorts.size(); type++) {
            for (String call : List.of("lineSize", "isAdmitted", "leaves")) {
                all.add(call + " " + type);
            }
            all.add("missing " + type + " 0");
            all.add("needless " + type + " " + ((1 << model.sorts.size()) - 1));
            for (int place = 0; place <= model.sorts.size(); place++) {
                all.add("lineAt " + type + " " + place);
            }
            for (int member = 0; member < 8; member++) {
                for (String call : List.of("call", "callAnew", "definer", "fieldOf")) {
                    all.add(call + " " + type + " " + member);
                }
            }
        }
        return all;
    }

    private static List<String> ofTypes(Model model) {
        List<String> all = new ArrayList<>();
        for (int node = 0; node <= model.nodes.size(); node++) {
            all.add("number " + node);
        }
        for (int node : sample(model.nodes.size())) {
            for (int type = 0; type < model.sorts.size(); type++) {
                all.add("base " + node + " " + type);
            }
            for (int other : sample(model.nodes.size())) {
                all.add("isBelow " + node + " " + other);
            }
            for (int scope = 0; scope < model.scopes.size(); scope++) {
                for (String call : List.of("look", "find", "findAnew", "used")) {
                    all.add(call + " " + scope + " " + node);
                }
            }
        }
        all.add("compared");
        return all;
    }

    /** Calls that build: they tell what is counted, and what is defined or a parent already. */
    private static List<String> growing(Model model) {
        List<String> all = new ArrayList<>(List.of("addClass c 0 false", "variable", "openScope -1"));
        for (int type = 0; type < model.sorts.size(); type++) {
            for (int member : new int[] {0, 3, 7}) {
                all.add("define " + type + " " + member + " a 0 0");
                all.add("defineField " + type + " " + member + " 0 -1");
            }
            for (int parent = 0; parent < type; parent++) {
                all.add("extend " + type + " " + parent + " "
                    + (model.sorts.get(parent).hasParameter() ? model.nodes.size() - 1 : -1));
            }
            all.add("lay " + type + " -1");
        }
        if (!model.nodes.isEmpty()) {
            all.add("give 0 " + (model.nodes.size() - 1) + " -1 -1");
            all.add("giveBeside 0 " + (model.nodes.size() - 1) + " -1 -1");
        }
        return all;
    }

    /** The first nodes and the last two. */
    private static List<Integer> sample(int count) {
        List<Integer> all = new ArrayList<>();
        for (int node = 0; node < count; node++) {
            if (node < SAMPLE || node >= count - 2) {
                all.add(node);
            }
        }
        return all;
    }
}
