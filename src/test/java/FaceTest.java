import java.lang.reflect.Constructor;
import java.lang.reflect.Field;
import java.lang.reflect.Method;
import java.lang.reflect.Modifier;
import java.nio.file.Files;
import java.nio.file.Path;
import java.util.ArrayList;
import java.util.List;
import java.util.TreeSet;
import java.util.regex.Matcher;
import java.util.regex.Pattern;

/** The face is the document's and no more, and the source keeps to the rules that a look can tell. */
public final class FaceTest {
    private static final Check CHECK = new Check("FaceTest");
    private static final String METHODS = "write/1 wipe/0 fault/0 lay/0 box/1 quarters/1 reach/1 putOver/2 buy/1 "
        + "hand/2 undo/0 left/2 mean/1 soon/2 times/1 likeliest/1 level/1 worth/1 begin/3 over/1 seen/2 forget/0 "
        + "fits/0 asLikely/2 evenings/1 which/0 better/4 coat/3 keep/0 back/0 count/1";
    private static final String[] FORBIDDEN = {"throw", "throws", "try", "catch", "synchronized", "assert",
        "import", "package", "record", "var", "protected"};

    public static void main(String[] args) throws Exception {
        face();
        source(Files.readString(Path.of(args.length > 0 ? args[0] : "src/main/java/EitherPocket.java")));
        CHECK.end();
    }

    private static void face() {
        Class<?> c = EitherPocket.class;
        CHECK.due("public and final", c.getModifiers(), Modifier.PUBLIC | Modifier.FINAL);
        TreeSet<String> names = new TreeSet<>();
        TreeSet<String> publicNames = new TreeSet<>();
        for (String one : METHODS.split(" ")) {
            publicNames.add(one.substring(0, one.indexOf('/')));
        }
        for (Method m : c.getDeclaredMethods()) {
            if (Modifier.isPrivate(m.getModifiers())) {
                CHECK.due("private " + m.getName(), publicNames.contains(m.getName()) ? 1 : 0, 0);
                continue;
            }
            CHECK.due(m.getName() + " is public", m.getModifiers(), Modifier.PUBLIC);
            CHECK.dueText(m.getName() + " answers", m.getReturnType().getName(), "int");
            for (Class<?> type : m.getParameterTypes()) {
                CHECK.dueText(m.getName() + " takes", type.getName(), "int");
            }
            names.add(m.getName() + "/" + m.getParameterCount());
        }
        CHECK.dueText("the methods", names.toString(), new TreeSet<>(List.of(METHODS.split(" "))).toString());
        TreeSet<String> constants = new TreeSet<>();
        for (Field f : c.getDeclaredFields()) {
            if (!Modifier.isPrivate(f.getModifiers())) {
                constants.add(Modifier.toString(f.getModifiers()) + " " + f.getType() + " " + f.getName());
            }
            if (Modifier.isStatic(f.getModifiers())) {
                CHECK.due(f.getName() + " is final", f.getModifiers() & Modifier.FINAL, Modifier.FINAL);
            }
        }
        CHECK.dueText("the constants", constants.toString(), "[public static final int BAD, "
            + "public static final int FULL, public static final int NO, public static final int NONE]");
        Constructor<?>[] made = c.getDeclaredConstructors();
        CHECK.due("constructors", made.length, 1);
        CHECK.due("its parameters", made[0].getParameterCount(), 0);
        CHECK.due("it is public", made[0].getModifiers(), Modifier.PUBLIC);
        for (Class<?> inside : c.getDeclaredClasses()) {
            CHECK.due(inside + " is static", inside.getModifiers() & Modifier.STATIC, Modifier.STATIC);
        }
        CHECK.due("BAD", EitherPocket.BAD, -1);
        CHECK.due("NO", EitherPocket.NO, -2);
        CHECK.due("FULL", EitherPocket.FULL, -3);
        CHECK.due("NONE", EitherPocket.NONE, -4);
    }

    private static void source(String whole) {
        String code = whole.replaceAll("(?s)/\\*.*?\\*/", " ").replaceAll("//[^\n]*", " ");
        for (String word : FORBIDDEN) {
            Matcher m = Pattern.compile("\\b" + word + "\\b").matcher(code);
            CHECK.due("the word " + word, m.find() ? 1 : 0, 0);
        }
        CHECK.due("an arrow", code.contains("->") ? 1 : 0, 0);
        CHECK.due("a method reference", code.contains("::") ? 1 : 0, 0);
        List<String> tall = new ArrayList<>();
        int depth = 0;
        int since = 0;
        int line = 0;
        for (String one : whole.split("\n")) {
            line++;
            boolean ofMethod = one.matches("\\s+(public|private|static|final|int|long|void|boolean|char|Pile)\\b.*\\) \\{");
            if (ofMethod) {
                since = line;
                depth = one.indexOf(one.trim());
            }
            if (since > 0 && one.matches(" {" + depth + "}\\}") && line - since > 60) {
                tall.add("line " + since);
            }
        }
        CHECK.dueText("methods of over sixty lines", tall.toString(), "[]");
        for (char letter : whole.toCharArray()) {
            if (letter > 126) {
                CHECK.due("a sign in the source", letter, 126);
            }
        }
    }
}
