import java.lang.reflect.Constructor;
import java.lang.reflect.Field;
import java.lang.reflect.Method;
import java.lang.reflect.Modifier;
import java.nio.charset.StandardCharsets;
import java.nio.file.Files;
import java.nio.file.Path;
import java.util.ArrayList;
import java.util.Arrays;
import java.util.List;
import java.util.TreeSet;

/** The public face as the document tells it, and what of LANGUAGE.md can be seen by looking. */
final class FaceTest {
    private static final String[] FACE = {
        "write(int)", "wipe()", "fault()", "lay()", "person(int,int)", "good(int,int)", "love(int,int)",
        "pack(int,boolean)", "give(int,int)", "leave(int)", "leaveBoth(int,int)", "comeBack(int)", "undo()",
        "owes(int)", "owesWith(int,int)", "packing(int,int)", "giving(int,int)", "order(int)", "stuck()",
        "swear(int,int)", "forget()", "isFalse(int)", "loved(int,int,int)",
        "byTurns(int,int,int,int)", "chairs(int)", "year(int,int,int)", "keep()", "back()", "count(int)"};
    private static final String[] FORBIDDEN = {"->", "::", "throw", "catch", "finally", "assert", "synchronized", "instanceof", "import", "package",
        "protected", "Exact(", "System.", "Object", "var ", "while (true)", "for (;;)", "float", "double"};

    public static void main(String[] args) throws Exception {
        constants();
        methods();
        otherMembers();
        nested();
        source(new String(Files.readAllBytes(Path.of("src/main/java/DutyOnLeft.java")), StandardCharsets.ISO_8859_1));
        Check.end("FaceTest");
    }

    private static void holds(String what, boolean so) {
        Check.due(what, 1, so ? 1 : 0);
    }

    private static void constants() {
        Check.due("BAD", -1, DutyOnLeft.BAD);
        Check.due("NO", -2, DutyOnLeft.NO);
        Check.due("FULL", -3, DutyOnLeft.FULL);
        Check.due("NONE", -4, DutyOnLeft.NONE);
        int mods = DutyOnLeft.class.getModifiers();
        holds("the class is public and final", Modifier.isPublic(mods) && Modifier.isFinal(mods));
        Constructor<?>[] all = DutyOnLeft.class.getDeclaredConstructors();
        holds("one public constructor", all.length == 1 && Modifier.isPublic(all[0].getModifiers()) && all[0].getParameterCount() == 0);
    }

    private static void methods() {
        TreeSet<String> wanted = new TreeSet<>(Arrays.asList(FACE));
        TreeSet<String> found = new TreeSet<>();
        for (Method m : DutyOnLeft.class.getDeclaredMethods()) {
            if (!Modifier.isPrivate(m.getModifiers())) {
                List<String> types = new ArrayList<>();
                for (Class<?> c : m.getParameterTypes()) {
                    types.add(c.getName());
                }
                found.add(m.getName() + "(" + String.join(",", types) + ")");
                holds(m.getName() + " is public, of an object, answers an int",
                    m.getModifiers() == Modifier.PUBLIC && m.getReturnType() == int.class);
            }
        }
        Check.same("the face", wanted.toString(), found.toString());
    }

    private static boolean isOfFace(String name) {
        return Arrays.stream(FACE).anyMatch(f -> f.startsWith(name + "("));
    }

    private static void otherMembers() {
        List<Class<?>> all = new ArrayList<>(Arrays.asList(DutyOnLeft.class.getDeclaredClasses()));
        all.add(DutyOnLeft.class);
        holds("some twelve classes", all.size() <= 12);
        for (Class<?> c : all) {
            int own = 0;
            for (Field f : c.getDeclaredFields()) {
                boolean fixed = Modifier.isStatic(f.getModifiers());
                own += fixed ? 0 : 1;
                holds(c + "." + f.getName() + " is final, if static", !fixed || Modifier.isFinal(f.getModifiers()));
                boolean seen = c != DutyOnLeft.class || Modifier.isPrivate(f.getModifiers()) || "BAD NO FULL NONE".contains(f.getName());
                holds(f.getName() + " is private, or of the face", seen);
            }
            holds(c + " has some twenty fields at most", own <= 20);
            for (Method m : c.getDeclaredMethods()) {
                boolean faced = c == DutyOnLeft.class && Modifier.isPublic(m.getModifiers());
                holds(c + "." + m.getName() + " bears no name of the face", faced || !isOfFace(m.getName()));
                holds(c + "." + m.getName() + " takes seven at most", m.getParameterCount() <= 7);
            }
        }
    }

    private static void nested() {
        for (Class<?> c : DutyOnLeft.class.getDeclaredClasses()) {
            int mods = c.getModifiers();
            holds(c + " is static, not public", Modifier.isStatic(mods) && !Modifier.isPublic(mods) && !Modifier.isProtected(mods));
        }
    }

    private static void source(String source) {
        holds("signs 1 to 127", source.chars().allMatch(c -> c >= 1 && c <= 127));
        String bare = source.replaceAll("(?s)/\\*.*?\\*/", "").replaceAll("//[^\n]*", "").replaceAll("\"[^\"\n]*\"", "TEXT");
        for (String word : FORBIDDEN) {
            holds("the source is without " + word, !bare.contains(word));
        }
        holds("no texts joined by +", !bare.matches("(?s).*(TEXT\\s*\\+|\\+\\s*TEXT).*"));
        int begin = 0;
        String[] lines = source.split("\n");
        for (int k = 0; k < lines.length; k++) {
            if (lines[k].matches(" {4,8}[^ /*].*\\) \\{")) {
                begin = k;
            }
            if (lines[k].matches(" {4,8}\\}")) {
                holds("a method of sixty lines at most, ending at line " + (k + 1), k - begin < 60);
            }
        }
    }
}
