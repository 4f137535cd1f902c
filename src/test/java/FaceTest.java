import java.lang.reflect.Constructor;
import java.lang.reflect.Field;
import java.lang.reflect.Method;
import java.lang.reflect.Modifier;
import java.nio.file.Files;
import java.nio.file.Path;
import java.util.Arrays;
import java.util.List;
import java.util.TreeSet;
import java.util.regex.Matcher;
import java.util.regex.Pattern;

/** The document's face and nothing else, and the rules of LANGUAGE.md that can be read off the source. */
public final class FaceTest {
    private static final Checks c = new Checks();
    private static final String[] CALLS = {
        "row int int", "lay int int int", "at int int", "tear int", "copy int int int int int", "mean int",
        "text int int", "put int int int", "fault int", "room int", "glass int int", "mark int int",
        "habit int", "term int int", "step int int", "deed int int", "broken", "undo int", "keep int",
        "on int", "show int int int", "breaks int int", "alike int int", "fit int int", "ways int int",
        "first int int int", "can int int int", "laws int int", "next int int", "he int int int",
        "keeps int int", "still int int", "game int", "picks int", "odds int int int", "mid int int int",
        "lots int int", "asked", "upper", "lower", "count int", "finding", "findings int", "digest",
    };
    private static final List<String> LONGS = List.of("upper", "lower", "digest");
    private static final String[] FORBIDDEN = {
        "\\bthrow\\b", "\\bthrows\\b", "\\btry\\b", "\\bcatch\\b", "\\bsynchronized\\b", "\\bassert\\b",
        "->", "::", "\\bimport\\b", "\\bpackage\\b", "@", "\\bprotected\\b", "\\bdouble\\b.*%",
        "static \\{", "[^\\x00-\\x7f]", "\\bequals\\b", "\\bhashCode\\b", "\\btoString\\b", "Exact\\b",
    };

    /** Of what rule 4 of LANGUAGE.md lets in, all that the class needs; one more is looked up there first. */
    private static final List<String> LIBRARY = List.of("java/lang/Object.<init>", "java/lang/Integer.bitCount",
            "java/lang/Math.max", "java/lang/Math.min", "java/lang/System.arraycopy");

    public static void main(String[] args) throws Exception {
        methods();
        membersBeside();
        constants();
        nested();
        source();
        c.end();
    }

    private static void methods() {
        TreeSet<String> want = new TreeSet<>();
        for (String call : CALLS) {
            String name = call.split(" ")[0];
            want.add((LONGS.contains(name) ? "long " : "int ") + call);
        }
        TreeSet<String> got = new TreeSet<>();
        for (Method m : LimpMirror.class.getDeclaredMethods()) {
            if (Modifier.isPublic(m.getModifiers())) {
                StringBuilder b = new StringBuilder(m.getReturnType() + " " + m.getName());
                for (Class<?> type : m.getParameterTypes()) {
                    b.append(' ').append(type);
                }
                got.add(b.toString());
            }
        }
        c.due("the public methods", got.toString(), want.toString());
    }

    private static void membersBeside() {
        for (Method m : LimpMirror.class.getDeclaredMethods()) {
            int flags = m.getModifiers();
            c.due(m + " is public or private", Modifier.isPublic(flags) || Modifier.isPrivate(flags) ? 1 : 0, 1);
        }
        Constructor<?>[] made = LimpMirror.class.getDeclaredConstructors();
        c.due("constructors", made.length, 1);
        c.due("it is public", Modifier.isPublic(made[0].getModifiers()) ? 1 : 0, 1);
        c.due("it takes nothing", made[0].getParameterCount(), 0);
        int flags = LimpMirror.class.getModifiers();
        c.due("public final", Modifier.isPublic(flags) && Modifier.isFinal(flags) ? 1 : 0, 1);
    }

    private static void constants() {
        TreeSet<String> open = new TreeSet<>();
        for (Field f : LimpMirror.class.getDeclaredFields()) {
            if (!Modifier.isPrivate(f.getModifiers())) {
                open.add(f.getName());
            }
        }
        c.due("the constants", open.toString(), "[BAD, FINDING, FULL, NONE, SPENT, STATE]");
        int[] got = {LimpMirror.BAD, LimpMirror.FULL, LimpMirror.FINDING, LimpMirror.STATE, LimpMirror.SPENT,
            LimpMirror.NONE};
        c.due("what they are", Arrays.toString(got), "[-1, -2, -3, -4, -6, -9]");
    }

    private static void nested() throws Exception {
        Class<?>[] all = LimpMirror.class.getDeclaredClasses();
        c.due("twelve classes at most", all.length + 1 <= 12 ? 1 : 0, 1);
        for (Class<?> one : all) {
            c.due(one + " is static", Modifier.isStatic(one.getModifiers()) ? 1 : 0, 1);
            c.due(one + " is not public", Modifier.isPublic(one.getModifiers()) ? 1 : 0, 0);
            c.due(one + " has no class inside", one.getDeclaredClasses().length, 0);
            insideOf(one);
        }
        insideOf(LimpMirror.class);
    }

    private static void insideOf(Class<?> one) throws Exception {
        for (String used : ClassFile.of(one).membersUsed("LimpMirror")) {
            c.due(one + " uses " + used + ", which rule 4 lets in", LIBRARY.contains(used) ? 1 : 0, 1);
        }
        int fields = 0;
        for (Field f : one.getDeclaredFields()) {
            int flags = f.getModifiers();
            fields += Modifier.isStatic(flags) ? 0 : 1;
            c.due(f + ": static fields are final", Modifier.isStatic(flags) && !Modifier.isFinal(flags) ? 1 : 0, 0);
        }
        c.due(one + " has twenty fields at most", fields <= 20 ? 1 : 0, 1);
        for (Method m : one.getDeclaredMethods()) {
            boolean isFace = Arrays.stream(CALLS).anyMatch(call -> call.split(" ")[0].equals(m.getName()));
            c.due(m + " bears no public name", isFace && Modifier.isPrivate(m.getModifiers()) ? 1 : 0, 0);
            c.due(m + " takes seven at most", m.getParameterCount() <= 7 ? 1 : 0, 1);
        }
    }

    private static void source() throws Exception {
        String all = Files.readString(Path.of("src/main/java/LimpMirror.java"));
        String code = all.replaceAll("(?s)/\\*.*?\\*/", "").replaceAll("//[^\n]*", "");
        for (String word : FORBIDDEN) {
            Matcher m = Pattern.compile(word).matcher(code);
            c.due("the source has no " + word, m.find() ? 1 : 0, 0);
        }
        int length = 0;
        for (String line : code.split("\n")) {
            boolean isHead = line.matches("    (    )?[a-z].*\\) \\{");
            length = isHead ? 0 : length + 1;
            boolean isEnd = line.matches("    (    )?\\}");
            c.due("a method's length at " + line.trim(), isEnd && length > 60 ? 1 : 0, 0);
        }
    }
}
