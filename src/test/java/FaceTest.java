import java.lang.reflect.Constructor;
import java.lang.reflect.Field;
import java.lang.reflect.Method;
import java.lang.reflect.Modifier;
import java.nio.file.Files;
import java.nio.file.Path;
import java.util.Arrays;
import java.util.TreeSet;
import java.util.regex.Matcher;
import java.util.regex.Pattern;

/** The public face is the document's, and the source keeps the rules that can be seen by reading. */
public final class FaceTest {
    private static final String[] FACE = {
        "int UNKNOWN = -1", "int BAD_VALUE = -2", "int FULL = -3", "int NOT_POSSIBLE = -4", "int NONE = -5",
        "HiddenRuns()", "int setWeight(int, int, int, int)", "int addState()", "int split(int)",
        "int join(int, int)", "int removeState(int)", "int setBound(int)", "int addSamples()",
        "int removeSample(int)", "int learn(int)", "int type(char)", "int clearText()", "int undo()",
        "int keep()", "int restore()", "int weight(int, int, int, boolean)", "int sign(int, int)",
        "long ofSample(int, int)", "int best(int, int)", "int share(int, int, int)", "int likeliest(int, int)",
        "int doubtful(int)", "int run(int, int, int)", "int next(int, int)", "int count(int)"
    };
    private static final String FORBIDDEN =
        "\\b(throw|try|catch|synchronized|assert|equals|hashCode|toString|System\\.(?!arraycopy)\\w+"
        + "|java\\.(?!util\\.Arrays)[\\w.]+|Random|Thread|\\w+Exact)\\b|->|::|\\bnew \\w+\\([^)]*\\)\\s*\\{";

    private static int wrong = 0;

    private static void due(String what, Object got, Object want) {
        if (!got.equals(want)) {
            wrong++;
            System.out.println(what + " is " + got + ", due is " + want);
        }
    }

    private static String parameters(Class<?>[] types) {
        StringBuilder list = new StringBuilder("(");
        for (Class<?> type : types) {
            list.append(list.length() > 1 ? ", " : "").append(type.getSimpleName());
        }
        return list.append(")").toString();
    }

    private static void checkFace() throws Exception {
        TreeSet<String> visible = new TreeSet<>();
        TreeSet<String> hidden = new TreeSet<>();
        for (Field field : HiddenRuns.class.getDeclaredFields()) {
            if (!Modifier.isPrivate(field.getModifiers())) {
                visible.add(field.getType().getSimpleName() + " " + field.getName() + " = " + field.get(null));
            }
            if (Modifier.isStatic(field.getModifiers())) {
                due(field.getName() + " final", Modifier.isFinal(field.getModifiers()), true);
            }
        }
        for (Constructor<?> made : HiddenRuns.class.getDeclaredConstructors()) {
            visible.add("HiddenRuns" + parameters(made.getParameterTypes()));
        }
        for (Method method : HiddenRuns.class.getDeclaredMethods()) {
            if (Modifier.isPrivate(method.getModifiers())) {
                hidden.add(method.getName());
            } else {
                due(method.getName() + " public", Modifier.isPublic(method.getModifiers()), true);
                visible.add(method.getReturnType().getSimpleName() + " " + method.getName()
                    + parameters(method.getParameterTypes()));
            }
        }
        due("the face", visible, new TreeSet<>(Arrays.asList(FACE)));
        due("the class final", Modifier.isFinal(HiddenRuns.class.getModifiers()), true);
        for (Class<?> inside : HiddenRuns.class.getDeclaredClasses()) {
            due(inside + " static", Modifier.isStatic(inside.getModifiers()), true);
            due(inside + " public", Modifier.isPublic(inside.getModifiers()), false);
            for (Method method : inside.getDeclaredMethods()) {
                hidden.add(method.getName());
            }
        }
        for (Method method : HiddenRuns.class.getMethods()) {
            due("a hidden " + method.getName(), hidden.contains(method.getName()), false);
        }
    }

    private static void checkSource() throws Exception {
        String source = Files.readString(Path.of("src/main/java/HiddenRuns.java"));
        String code = source.replaceAll("(?s)/\\*.*?\\*/", "").replaceAll("//.*", "");
        Matcher found = Pattern.compile(FORBIDDEN).matcher(code);
        while (found.find()) {
            wrong++;
            System.out.println("the source has " + found.group());
        }
    }

    public static void main(String[] args) throws Exception {
        checkFace();
        checkSource();
        System.out.println(wrong == 0 ? "the face is as due" : wrong + " rows are not as due");
        if (wrong != 0) {
            System.exit(1);
        }
    }
}
