import java.lang.reflect.InvocationTargetException;
import java.lang.reflect.Method;
import java.util.Arrays;
import java.util.Comparator;

/** What the tests of the edges have in common. */
final class Edges {
    static final int UNKNOWN = HiddenRuns.UNKNOWN;
    static final int BAD_VALUE = HiddenRuns.BAD_VALUE;
    static final int FULL = HiddenRuns.FULL;
    static final int NOT_POSSIBLE = HiddenRuns.NOT_POSSIBLE;
    static final int NONE = HiddenRuns.NONE;

    static final int BEGIN = 0;
    static final int GO = 1;
    static final int SHOW = 2;

    private static int wrong = 0;
    private static String test = "";

    private Edges() {
    }

    /** Makes an object as it is wanted. */
    interface Script {
        HiddenRuns make();
    }

    /** One call. */
    interface Call {
        long on(HiddenRuns x);
    }

    static void due(String what, long got, long want) {
        if (got != want) {
            wrong++;
            System.out.println(test + ": " + what + " answered " + got + ", due is " + want);
        }
    }

    static void dueText(String what, String got, String want) {
        if (!got.equals(want)) {
            wrong++;
            System.out.println(test + ": " + what + " is " + got + ", due is " + want);
        }
    }

    /** Runs every method that takes and returns nothing: so none can be forgotten. */
    static void runAll(Class<?> tests) throws Exception {
        Method[] methods = tests.getDeclaredMethods();
        Arrays.sort(methods, Comparator.comparing(Method::getName));
        int ran = 0;
        for (Method method : methods) {
            if (method.getParameterCount() == 0 && method.getReturnType() == void.class) {
                method.setAccessible(true);
                runOne(method);
                ran++;
            }
        }
        System.out.println(ran + " tests, " + wrong + " answers are not as due");
        if (wrong != 0 || ran == 0) {
            System.exit(1);
        }
    }

    private static void runOne(Method method) throws IllegalAccessException {
        test = method.getName();
        try {
            method.invoke(null);
        } catch (InvocationTargetException thrown) {
            wrong++;
            System.out.println(test + " threw " + thrown.getCause());
        }
    }

    /** Numbers on both sides of a range: the nearest and the farthest ones. */
    static int[] outside(int first, int last) {
        return new int[] {Integer.MIN_VALUE, Integer.MIN_VALUE + first, first - 1, last + 1,
            last + 256, last + 65536, Integer.MAX_VALUE - 1, Integer.MAX_VALUE};
    }

    // ---- objects

    static void typeAll(HiddenRuns x, String text) {
        x.clearText();
        for (int index = 0; index < text.length(); index++) {
            due("type " + index, x.type(text.charAt(index)), index + 1);
        }
    }

    static void add(HiddenRuns x, String text) {
        typeAll(x, text);
        due("add " + text, x.addSamples(), text.split(";").length);
    }

    static HiddenRuns ofStates(int states) {
        HiddenRuns x = new HiddenRuns();
        if (states == 1) {
            due("to one state", x.removeState(1), 1);
        }
        for (int state = 2; state < states; state++) {
            due("one state more", x.addState(), state);
        }
        return x;
    }

    /** Digits for the weights, a "/" between the rows of two states. */
    static HiddenRuns model(String begin, String going, String showing, String samples) {
        HiddenRuns x = ofStates(begin.length());
        String[] go = going.split("/");
        String[] show = showing.split("/");
        for (int state = 0; state < begin.length(); state++) {
            x.setWeight(BEGIN, state, 0, begin.charAt(state) - '0');
            for (int to = 0; to < begin.length(); to++) {
                x.setWeight(GO, state, to, go[state].charAt(to) - '0');
            }
            for (int sign = 0; sign < 3; sign++) {
                x.setWeight(SHOW, state, sign, show[state].charAt(sign) - '0');
            }
        }
        if (!samples.isEmpty()) {
            add(x, samples);
        }
        return x;
    }

    /** All weights as digits: beginnings, goings on and showings. */
    static String weights(HiddenRuns x) {
        int states = x.count(0);
        StringBuilder begin = new StringBuilder();
        StringBuilder go = new StringBuilder();
        StringBuilder show = new StringBuilder();
        for (int state = 0; state < states; state++) {
            begin.append(x.weight(BEGIN, state, 0, false));
            go.append(state > 0 ? "/" : "");
            show.append(state > 0 ? "/" : "");
            for (int to = 0; to < states; to++) {
                go.append(x.weight(GO, state, to, false));
            }
            for (int sign = 0; sign < 3; sign++) {
                show.append(x.weight(SHOW, state, sign, false));
            }
        }
        return begin + " " + go + " " + show;
    }

    static void dueWeights(String what, HiddenRuns x, String begin, String going, String showing) {
        dueText(what, weights(x), begin + " " + going + " " + showing);
    }

    /** The signs of all samples, as the text that adds them. */
    static String samples(HiddenRuns x) {
        StringBuilder text = new StringBuilder();
        for (int sample = 0; sample < x.count(1); sample++) {
            text.append(sample > 0 ? ";" : "");
            for (int place = 0; x.sign(sample, place) >= 0; place++) {
                text.append((char) ('a' + x.sign(sample, place)));
            }
        }
        return text.toString();
    }

    /** All that an act may change. */
    static String state(HiddenRuns x) {
        return weights(x) + " [" + samples(x) + "] " + x.count(2);
    }

    /** The states of a run, as digits. */
    static String run(HiddenRuns x, int sample, int rank, int length) {
        StringBuilder digits = new StringBuilder();
        for (int place = 0; place < length; place++) {
            digits.append(x.run(sample, rank, place));
        }
        return digits.toString();
    }

    static String best(HiddenRuns x, int sample, int length) {
        StringBuilder digits = new StringBuilder();
        for (int place = 0; place < length; place++) {
            digits.append(x.best(sample, place));
        }
        return digits.toString();
    }

    static String odds(HiddenRuns x, int kind, int state) {
        StringBuilder numbers = new StringBuilder();
        int size = kind == SHOW ? 3 : x.count(0);
        for (int member = 0; member < size; member++) {
            numbers.append(member > 0 ? " " : "");
            numbers.append(kind == BEGIN ? x.weight(kind, member, 0, true) : x.weight(kind, state, member, true));
        }
        return numbers.toString();
    }

    // ---- calls that change nothing

    /** Everything of an object, its history, snapshot and text too; the object is used up by it. */
    private static String everything(HiddenRuns x) {
        StringBuilder told = new StringBuilder(state(x));
        told.append(" past ").append(x.count(7)).append(" text ").append(x.count(8));
        for (int left = x.count(7); left > 0; left--) {
            told.append("\n undo ").append(x.undo()).append(": ").append(state(x));
        }
        int kept = x.restore();
        told.append("\n snapshot ").append(kept).append(": ").append(kept < 0 ? "" : state(x));
        while (x.count(1) > 0) {
            x.removeSample(0);
        }
        told.append("\n text ").append(x.addSamples()).append(": ").append(samples(x));
        return told.toString();
    }

    /** The call answers so, and the object is as one on which it was never called. */
    static void changesNothing(String what, Script script, Call call, long want) {
        HiddenRuns x = script.make();
        due(what, call.on(x), want);
        dueText("everything after " + what, everything(x), everything(script.make()));
    }
}
