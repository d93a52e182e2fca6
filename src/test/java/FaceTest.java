import java.lang.management.ManagementFactory;
import java.lang.reflect.Constructor;
import java.lang.reflect.Field;
import java.lang.reflect.Method;
import java.lang.reflect.Modifier;
import java.util.Arrays;
import java.util.Set;
import java.util.TreeSet;
import java.util.stream.Collectors;

/** The face is the document's and no more, and calls make next to nothing. */
public final class FaceTest {
    private static final String FACE = """
        char look(int,int)
        boolean isAdmitted(int)
        boolean isBelow(int,int)
        boolean isSound()
        double meanLine()
        float admittedShare()
        int addClass(char,char,boolean)
        int base(int,int)
        int call(int,int)
        int callAnew(int,int)
        int define(int,int,char,int,int)
        int defineField(int,int,int,int)
        int definer(int,int)
        int extend(int,int,int)
        int fieldOf(int,int)
        int find(int,int)
        int findAnew(int,int)
        int give(int,int,int,int)
        int giveBeside(int,int,int,int)
        int lay(int,int)
        int leaves(int)
        int lineAt(int,int)
        int lineSize(int)
        int missing(int,int)
        int needless(int,int)
        int number(int)
        int openScope(int)
        int used(int,int)
        int variable()
        long compared()
        """;

    private static int wrong = 0;

    public static void main(String[] arguments) {
        members();
        insideClasses();
        room();
        System.out.println("FaceTest: " + wrong + " wrong");
        if (wrong > 0) {
            System.exit(1);
        }
    }

    private static void due(boolean isFine, String what) {
        if (!isFine) {
            wrong++;
            System.out.println(what);
        }
    }

    private static void members() {
        Set<String> due = new TreeSet<>(Arrays.asList(FACE.split("\n")));
        Set<String> got = new TreeSet<>();
        Set<String> names = new TreeSet<>();
        for (Method method : GivensGuild.class.getDeclaredMethods()) {
            if (!Modifier.isPrivate(method.getModifiers())) {
                due(Modifier.isPublic(method.getModifiers()), "neither public nor private: " + method);
                got.add(method.getReturnType() + " " + method.getName() + Arrays.stream(method.getParameterTypes())
                    .map(Class::getName).collect(Collectors.joining(",", "(", ")")));
                names.add(method.getName());
            }
        }
        due(due.equals(got), "the face is " + got + ", due is " + due);
        for (Method method : GivensGuild.class.getDeclaredMethods()) {
            due(!Modifier.isPrivate(method.getModifiers()) || !names.contains(method.getName()),
                "a private method bears a public name: " + method);
        }
        for (Field field : GivensGuild.class.getDeclaredFields()) {
            due(Modifier.isPrivate(field.getModifiers()), "not private: " + field);
        }
        Constructor<?>[] constructors = GivensGuild.class.getDeclaredConstructors();
        due(constructors.length == 1 && Modifier.isPublic(constructors[0].getModifiers()), "not one public constructor");
        due(Modifier.isFinal(GivensGuild.class.getModifiers()), "the class is not final");
    }

    private static void insideClasses() {
        Class<?>[] inside = GivensGuild.class.getDeclaredClasses();
        due(inside.length <= 11, "too many classes");
        for (Class<?> one : inside) {
            due(Modifier.isStatic(one.getModifiers()) && !Modifier.isPublic(one.getModifiers()), "not static: " + one);
            long fields = Arrays.stream(one.getDeclaredFields())
                .filter(field -> !Modifier.isStatic(field.getModifiers())).count();
            due(fields <= 20, "too many fields: " + one);
            for (Field field : one.getDeclaredFields()) {
                due(!Modifier.isStatic(field.getModifiers()) || Modifier.isFinal(field.getModifiers()),
                    "static state: " + field);
            }
        }
    }

    /** The dearest givens there are, asked 400 times, and all made by that counted. */
    private static void room() {
        com.sun.management.ThreadMXBean threads =
            (com.sun.management.ThreadMXBean) ManagementFactory.getThreadMXBean();
        long thread = Thread.currentThread().getId();
        dearest();
        long before = threads.getThreadAllocatedBytes(thread);
        dearest();
        long bytes = threads.getThreadAllocatedBytes(thread) - before;
        due(bytes < 100000, "one run makes " + bytes + " bytes");
    }

    private static void dearest() {
        GivensGuild guild = new GivensGuild();
        guild.addClass('c', '0', false);
        guild.addClass('c', '+', false);
        int variable = guild.variable();
        int node = guild.lay(0, -1);
        int list = guild.lay(1, variable);
        int deep = list;
        for (int depth = 3; depth <= 6; depth++) {
            deep = guild.lay(1, deep);
        }
        for (int depth = 2; depth <= 6; depth++) {
            node = guild.lay(1, node);
        }
        guild.openScope(-1);
        for (int given = 0; given < 10; given++) {
            guild.give(0, list, deep, deep);
        }
        long seen = 0;
        for (int call = 0; call < 400; call++) {
            seen += guild.look(0, node);
            seen += guild.isSound() ? 1 : 0;
        }
        due(seen == 400L * ('n' + 1), "the dearest type is found");
    }
}
