/**
 * "A call that returns an error or NONE changes nothing": nothing that is told, no state of the
 * history, and neither the snapshot nor the text. Each refusal of each method has a test of its
 * own: on an object whose history is full, where one more record would drop the oldest state, and
 * on one whose history has room. What tells and types is looked at in the same way.
 */
public final class RefusedCallsTest {
    private static final int UNKNOWN = Edges.UNKNOWN;
    private static final int BAD_VALUE = Edges.BAD_VALUE;
    private static final int FULL = Edges.FULL;
    private static final int NOT_POSSIBLE = Edges.NOT_POSSIBLE;
    private static final int NONE = Edges.NONE;
    private static final int BEGIN = Edges.BEGIN;
    private static final int GO = Edges.GO;
    private static final int SHOW = Edges.SHOW;

    /** Three states, two samples, a snapshot, a text of three samples and a full history. */
    private static HiddenRuns busy() {
        HiddenRuns x = Edges.model("125", "012/346/521", "123/406/510", "ab;cca");
        x.removeState(0);
        x.keep();
        x.undo();
        x.setBound(700);
        Edges.typeAll(x, "c;ba;a");
        return x;
    }

    /** The same, but for the bound, with three states in its history. */
    private static HiddenRuns withRoomInHistory() {
        HiddenRuns x = busy();
        x.undo();
        x.undo();
        x.undo();
        x.setWeight(SHOW, 2, 2, 0);
        Edges.add(x, "ab;cca");
        Edges.typeAll(x, "c;ba;a");
        return x;
    }

    private static HiddenRuns ofFourStates() {
        HiddenRuns x = busy();
        x.split(1);
        return x;
    }

    private static HiddenRuns ofFourStatesWithRoom() {
        HiddenRuns x = ofFourStates();
        x.addState();
        x.undo();
        x.undo();
        x.undo();
        x.addState();
        return x;
    }

    private static HiddenRuns alone() {
        HiddenRuns x = busy();
        x.removeState(2);
        x.removeState(0);
        return x;
    }

    private static HiddenRuns aloneWithRoom() {
        HiddenRuns x = Edges.model("1", "3", "240", "ab");
        x.keep();
        x.undo();
        x.undo();
        return x;
    }

    private static HiddenRuns typed(HiddenRuns x, String text) {
        Edges.typeAll(x, text);
        return x;
    }

    private static void refused(String what, Edges.Call call, long want) {
        Edges.changesNothing(what, RefusedCallsTest::busy, call, want);
        Edges.changesNothing(what + " with room", RefusedCallsTest::withRoomInHistory, call, want);
    }

    // the objects are what their names say
    static void theObjects() {
        Edges.due("busy", busy().count(7), 4);
        Edges.dueText("busy", Edges.state(busy()), "125 012/346/521 123/406/510 [ab;cca] 700");
        Edges.due("with room", withRoomInHistory().count(7), 3);
        Edges.dueText("with room", Edges.state(withRoomInHistory()), "125 012/346/521 123/406/510 [ab;cca] 800");
        Edges.due("four states", ofFourStates().count(0), 4);
        Edges.due("its history", ofFourStates().count(7), 4);
        Edges.due("four states with room", ofFourStatesWithRoom().count(0), 4);
        Edges.due("its history", ofFourStatesWithRoom().count(7), 2);
        Edges.due("alone", alone().count(0), 1);
        Edges.due("its history", alone().count(7), 4);
        Edges.due("alone with room", aloneWithRoom().count(0), 1);
        Edges.due("its history", aloneWithRoom().count(7), 2);
    }

    // ---- weights, states

    static void setWeightOfNoKind() {
        for (int kind : Edges.outside(0, 2)) {
            refused("kind " + kind, x -> x.setWeight(kind, 0, 0, 3), BAD_VALUE);
        }
    }

    static void setWeightOfNoState() {
        for (int state : Edges.outside(0, 2)) {
            refused("begin " + state, x -> x.setWeight(BEGIN, state, 0, 3), UNKNOWN);
            refused("go " + state, x -> x.setWeight(GO, state, 0, 3), UNKNOWN);
            refused("show " + state, x -> x.setWeight(SHOW, state, 0, 3), UNKNOWN);
        }
    }

    static void setWeightToNothing() {
        for (int to : Edges.outside(0, 2)) {
            refused("go to " + to, x -> x.setWeight(GO, 0, to, 3), UNKNOWN);
            refused("show " + to, x -> x.setWeight(SHOW, 0, to, 3), UNKNOWN);
        }
        for (int to : Edges.outside(0, 0)) {
            refused("begin to " + to, x -> x.setWeight(BEGIN, 0, to, 3), UNKNOWN);
        }
    }

    static void setWeightOutOfRange() {
        for (int weight : Edges.outside(0, 6)) {
            refused("begin with " + weight, x -> x.setWeight(BEGIN, 2, 0, weight), BAD_VALUE);
            refused("go with " + weight, x -> x.setWeight(GO, 2, 2, weight), BAD_VALUE);
            refused("show with " + weight, x -> x.setWeight(SHOW, 2, 2, weight), BAD_VALUE);
        }
    }

    static void setWeightThatIsSo() {
        refused("begin", x -> x.setWeight(BEGIN, 2, 0, 5), NONE);
        refused("go", x -> x.setWeight(GO, 1, 2, 6), NONE);
        refused("go, 0", x -> x.setWeight(GO, 0, 0, 0), NONE);
        Edges.changesNothing("show", RefusedCallsTest::alone, x -> x.setWeight(SHOW, 0, 2, 6), NONE);
    }

    static void addStateToFour() {
        Edges.changesNothing("add", RefusedCallsTest::ofFourStates, HiddenRuns::addState, FULL);
        Edges.changesNothing("add, room", RefusedCallsTest::ofFourStatesWithRoom, HiddenRuns::addState, FULL);
    }

    static void splitNoState() {
        for (int state : Edges.outside(0, 2)) {
            refused("split " + state, x -> x.split(state), UNKNOWN);
        }
        for (int state : Edges.outside(0, 3)) {
            Edges.changesNothing("split " + state, RefusedCallsTest::ofFourStates, x -> x.split(state), UNKNOWN);
        }
    }

    static void splitOneOfFour() {
        for (int state = 0; state < 4; state++) {
            int each = state;
            Edges.changesNothing("split", RefusedCallsTest::ofFourStates, x -> x.split(each), FULL);
            Edges.changesNothing("split, room", RefusedCallsTest::ofFourStatesWithRoom, x -> x.split(each), FULL);
        }
    }

    static void joinNoState() {
        for (int state : Edges.outside(0, 2)) {
            refused("join " + state, x -> x.join(state, 0), UNKNOWN);
            refused("join with " + state, x -> x.join(2, state), UNKNOWN);
            refused("join it with itself " + state, x -> x.join(state, state), UNKNOWN);
        }
    }

    static void joinWithItself() {
        for (int state = 0; state < 3; state++) {
            int each = state;
            refused("join " + state, x -> x.join(each, each), BAD_VALUE);
        }
        Edges.changesNothing("join alone", RefusedCallsTest::alone, x -> x.join(0, 0), BAD_VALUE);
    }

    static void removeNoState() {
        for (int state : Edges.outside(0, 2)) {
            refused("remove " + state, x -> x.removeState(state), UNKNOWN);
        }
        for (int state : Edges.outside(0, 0)) {
            Edges.changesNothing("remove " + state, RefusedCallsTest::alone, x -> x.removeState(state), UNKNOWN);
        }
    }

    static void removeTheOnlyState() {
        Edges.changesNothing("remove", RefusedCallsTest::alone, x -> x.removeState(0), NOT_POSSIBLE);
        Edges.changesNothing("remove, room", RefusedCallsTest::aloneWithRoom, x -> x.removeState(0), NOT_POSSIBLE);
    }

    static void setBoundOutOfRange() {
        for (int bound : Edges.outside(500, 1000)) {
            refused("bound " + bound, x -> x.setBound(bound), BAD_VALUE);
        }
    }

    static void setBoundThatIsSo() {
        Edges.changesNothing("bound", RefusedCallsTest::busy, x -> x.setBound(700), NONE);
        Edges.changesNothing("bound, room", RefusedCallsTest::withRoomInHistory, x -> x.setBound(800), NONE);
        Edges.changesNothing("first bound", HiddenRuns::new, x -> x.setBound(800), NONE);
    }

    // ---- samples, learning

    static void addSamplesOfATextWithAFault() {
        String[] texts = {"", "a;", "d", "ab;abcabcab", "a;;b", "ab;c;d"};
        int[] faults = {0, 2, 0, 10, 2, 5};
        for (int index = 0; index < texts.length; index++) {
            String text = texts[index];
            int want = -100 - faults[index];
            Edges.changesNothing("text " + text, () -> typed(busy(), text), HiddenRuns::addSamples, want);
            Edges.changesNothing("text " + text + ", room", () -> typed(withRoomInHistory(), text),
                HiddenRuns::addSamples, want);
        }
    }

    static void addMoreSamplesThanSix() {
        Edges.changesNothing("five to two", () -> typed(busy(), "a;b;c;a;b"), HiddenRuns::addSamples, FULL);
        Edges.changesNothing("five to two, room", () -> typed(withRoomInHistory(), "a;b;c;a;b"),
            HiddenRuns::addSamples, FULL);
        Edges.changesNothing("seven to none", () -> typed(new HiddenRuns(), "a;b;c;a;b;c;a"),
            HiddenRuns::addSamples, FULL);
    }

    static void removeNoSample() {
        for (int sample : Edges.outside(0, 1)) {
            refused("remove " + sample, x -> x.removeSample(sample), UNKNOWN);
        }
        Edges.changesNothing("remove of none", HiddenRuns::new, x -> x.removeSample(0), UNKNOWN);
    }

    static void learnInNoRoundsOrTooMany() {
        for (int rounds : Edges.outside(1, 20)) {
            refused("learn " + rounds, x -> x.learn(rounds), BAD_VALUE);
        }
    }

    static void learnNothing() {
        for (int rounds = 1; rounds <= 20; rounds += 19) {
            int each = rounds;
            Edges.changesNothing("no samples", HiddenRuns::new, x -> x.learn(each), NONE);
            Edges.changesNothing("no totals", () -> Edges.model("00", "12/34", "123/456", "ab;c"),
                x -> x.learn(each), NONE);
            Edges.changesNothing("learnt already", RefusedCallsTest::learnt, x -> x.learn(each), NONE);
        }
    }

    private static HiddenRuns learnt() {
        HiddenRuns x = Edges.model("65", "22/24", "314/446", "baca;caba");
        x.learn(20);
        return x;
    }

    // ---- texts

    static void typeBehindAFullText() {
        String text = "abcabca;abcabca;abcabca;abcabca;abcabca;abcabca;abcabca;abcd";
        for (char character : new char[] {'a', ';', 'd', '\0', '\uffff'}) {
            Edges.changesNothing("type", () -> typed(busy(), text), x -> x.type(character), FULL);
            Edges.changesNothing("type, room", () -> typed(withRoomInHistory(), text), x -> x.type(character), FULL);
        }
    }

    // ---- history

    static void undoOfNothing() {
        Edges.changesNothing("new", HiddenRuns::new, HiddenRuns::undo, NONE);
        Edges.changesNothing("used", RefusedCallsTest::undone, HiddenRuns::undo, NONE);
    }

    private static HiddenRuns undone() {
        HiddenRuns x = busy();
        while (x.count(7) > 0) {
            x.undo();
        }
        return x;
    }

    static void restoreOfNothing() {
        Edges.changesNothing("new", HiddenRuns::new, HiddenRuns::restore, NONE);
        Edges.changesNothing("used", () -> Edges.model("125", "012/346/521", "123/406/510", "ab;cca"),
            HiddenRuns::restore, NONE);
    }

    // ---- what is told

    static void weightOfNothing() {
        for (int each : Edges.outside(0, 2)) {
            refused("kind " + each, x -> x.weight(each, 0, 0, true), BAD_VALUE);
            refused("state " + each, x -> x.weight(SHOW, each, 0, false), UNKNOWN);
            refused("to state " + each, x -> x.weight(GO, 0, each, true), UNKNOWN);
            refused("to sign " + each, x -> x.weight(SHOW, 0, each, true), UNKNOWN);
        }
    }

    static void nothingOfNoSample() {
        for (int sample : Edges.outside(0, 1)) {
            refused("sign", x -> x.sign(sample, 0), UNKNOWN);
            refused("ofSample", x -> x.ofSample(sample, 0), UNKNOWN);
            refused("best", x -> x.best(sample, 0), UNKNOWN);
            refused("share", x -> x.share(sample, 0, 0), UNKNOWN);
            refused("likeliest", x -> x.likeliest(sample, 0), UNKNOWN);
            refused("doubtful", x -> x.doubtful(sample), UNKNOWN);
            refused("run", x -> x.run(sample, 0, 0), UNKNOWN);
            refused("next", x -> x.next(sample, 0), UNKNOWN);
        }
    }

    static void nothingAtNoPlace() {
        for (int place : Edges.outside(0, 2)) {
            refused("sign", x -> x.sign(1, place), UNKNOWN);
            refused("best", x -> x.best(1, place), UNKNOWN);
            refused("share", x -> x.share(1, place, 0), UNKNOWN);
            refused("likeliest", x -> x.likeliest(1, place), UNKNOWN);
            refused("run", x -> x.run(1, 0, place), UNKNOWN);
        }
    }

    static void nothingOfOtherNumbers() {
        for (int each : Edges.outside(0, 2)) {
            refused("ofSample", x -> x.ofSample(0, each), BAD_VALUE);
            refused("share", x -> x.share(0, 0, each), UNKNOWN);
            refused("next", x -> x.next(0, each), UNKNOWN);
        }
        for (int what : Edges.outside(0, 8)) {
            refused("count", x -> x.count(what), BAD_VALUE);
        }
        refused("negative rank", x -> x.run(0, -1, 0), BAD_VALUE);
        refused("least rank", x -> x.run(0, Integer.MIN_VALUE, 0), BAD_VALUE);
        refused("greatest rank", x -> x.run(0, Integer.MAX_VALUE, 0), NONE);
    }

    static void noneWithoutATotal() {
        Edges.Script script = () -> Edges.model("00", "12/34", "123/456", "ab;c");
        Edges.changesNothing("best", script, x -> x.best(0, 0), NONE);
        Edges.changesNothing("share", script, x -> x.share(0, 0, 0), NONE);
        Edges.changesNothing("likeliest", script, x -> x.likeliest(0, 0), NONE);
        Edges.changesNothing("run", script, x -> x.run(0, 0, 0), NONE);
        Edges.changesNothing("next", script, x -> x.next(0, 0), NONE);
    }

    // what is told without an error changes nothing either
    static void tellingChangesNothing() {
        told("weight", x -> x.weight(GO, 1, 2, false));
        told("odds", x -> x.weight(GO, 0, 2, true));
        told("sign", x -> x.sign(1, 0));
        told("total", x -> x.ofSample(0, 0));
        told("runs", x -> x.ofSample(0, 1));
        told("weight of the best", x -> x.ofSample(0, 2));
        told("best", x -> x.best(0, 1));
        told("share", x -> x.share(0, 1, 0));
        told("likeliest", x -> x.likeliest(0, 1));
        told("doubtful", x -> x.doubtful(0));
        told("run", x -> x.run(0, 1, 0));
        told("next", x -> x.next(0, 1));
        for (int what = 0; what <= 8; what++) {
            int each = what;
            told("count " + what, x -> x.count(each));
        }
    }

    private static void told(String what, Edges.Call call) {
        long answer = call.on(busy());
        Edges.due(what + " is no error", answer >= 0 ? 1 : 0, 1);
        Edges.changesNothing(what, RefusedCallsTest::busy, call, answer);
        HiddenRuns x = busy();
        call.on(x);
        Edges.due(what + " again", call.on(x), answer);
    }

    public static void main(String[] args) throws Exception {
        Edges.runAll(RefusedCallsTest.class);
    }
}
