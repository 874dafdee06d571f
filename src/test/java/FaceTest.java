import java.io.IOException;
import java.lang.reflect.Constructor;
import java.lang.reflect.Field;
import java.lang.reflect.Method;
import java.lang.reflect.Modifier;
import java.nio.file.Files;
import java.nio.file.Path;
import java.util.Set;
import java.util.TreeSet;
import java.util.regex.Matcher;
import java.util.regex.Pattern;

/** The public face: all that the document shows, and nothing besides. */
public final class FaceTest {
    private static final String[] FACE = {
        "int row(int, int)", "int lay(int, int, int)", "int at(int, int)", "int tear(int)",
        "int copy(int, int, int, int, int)", "int mean(int)", "int text(int, int)", "int put(int, int, int)",
        "int fault(int)", "int court(int)", "int bear(int, int)", "int mark(int, int)", "int press(int)",
        "int mend(int)", "int eye(int)", "int turn(int)", "int undo(int)", "int keep(int)", "int on(int)",
        "int tells(int, int)", "int shown(int)", "int call(int)", "int shake(int, int, int)", "int cover(int)",
        "int rivals(int, int)", "int apart()", "int truths(int)", "int sure(int)", "int next(int)",
        "int kinds(int, int)", "int walls(int)", "int duel(int, int)", "int odds(int, int)", "int mid(int)",
        "int lots(int, int)", "int asked()", "long upper()", "long lower()", "int count(int)", "int finding()",
        "int findings(int)", "long digest()"
    };
    private static final String[] CONSTANTS = {"BAD -1", "FULL -2", "FINDING -3", "STATE -4", "SPENT -6", "NONE -9"};

    public static void main(String[] args) throws IllegalAccessException, IOException {
        Due.is("a public final class", BearWitness.class.getModifiers(), Modifier.PUBLIC | Modifier.FINAL);
        document();
        methods();
        constants();
        Constructor<?>[] all = BearWitness.class.getDeclaredConstructors();
        Due.is("one constructor", all.length, 1);
        Due.is("it takes nothing", all[0].getParameterCount(), 0);
        Due.is("it is public", all[0].getModifiers(), Modifier.PUBLIC);
        for (Class<?> inside : BearWitness.class.getDeclaredClasses()) {
            Due.is(inside + " is static", Modifier.isStatic(inside.getModifiers()) ? 1 : 0, 1);
            Due.is(inside + " is no face", Modifier.isPublic(inside.getModifiers()) ? 1 : 0, 0);
        }
        Due.end("FaceTest");
    }

    private static void same(String what, Set<String> got, Set<String> due) {
        for (String one : due) Due.is(what + " " + one + " is there", got.contains(one) ? 1 : 0, 1);
        for (String one : got) Due.is(what + " " + one + " is wanted", due.contains(one) ? 1 : 0, 1);
    }

    /** The face below is the document's. */
    private static void document() throws IOException {
        Path page = Path.of("../shared/DOC.md");
        // Where the document is not at hand, the face below stands for it.
        if (!Files.exists(page)) return;
        String doc = Files.readString(page);
        Set<String> calls = new TreeSet<>();
        Matcher call = Pattern.compile("public (int|long) (\\w+)\\(([^)]*)\\);").matcher(doc);
        while (call.find()) calls.add(call.group(1) + " " + call.group(2) + "(" + call.group(3).replaceAll(" \\w+(?=,|$)", "") + ")");
        same("the document's call", calls, new TreeSet<>(Set.of(FACE)));
        Matcher list = Pattern.compile("public static final int (.*);").matcher(doc);
        String constants = list.find() ? list.group(1).replace(" =", "") : "";
        same("the document's constant", new TreeSet<>(Set.of(constants.split(", "))), new TreeSet<>(Set.of(CONSTANTS)));
    }

    private static void methods() {
        Set<String> got = new TreeSet<>();
        for (Method m : BearWitness.class.getDeclaredMethods()) {
            if (Modifier.isPrivate(m.getModifiers()) || m.isSynthetic()) continue;
            StringBuilder told = new StringBuilder(m.getReturnType().getName() + " " + m.getName() + "(");
            for (Class<?> with : m.getParameterTypes()) {
                if (told.charAt(told.length() - 1) != '(') told.append(", ");
                told.append(with.getName());
            }
            got.add(told.append(')').toString());
            Due.is(m.getName() + "() is public, nothing else", m.getModifiers(), Modifier.PUBLIC);
        }
        same("call", got, new TreeSet<>(Set.of(FACE)));
    }

    private static void constants() throws IllegalAccessException {
        Set<String> got = new TreeSet<>();
        for (Field f : BearWitness.class.getDeclaredFields()) {
            if (Modifier.isPrivate(f.getModifiers()) || f.isSynthetic()) continue;
            Due.is(f + " is public static final", f.getModifiers(), Modifier.PUBLIC | Modifier.STATIC | Modifier.FINAL);
            Due.is(f + " is an int", f.getType() == int.class ? 1 : 0, 1);
            got.add(f.getName() + " " + f.get(null));
        }
        same("constant", got, new TreeSet<>(Set.of(CONSTANTS)));
    }
}
