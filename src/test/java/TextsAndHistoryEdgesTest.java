/**
 * The edges that the document's terms name, each with a test of its own on both sides: texts,
 * history, snapshot. The comment above a test is the sentence that it holds.
 */
public final class TextsAndHistoryEdgesTest {
    private static final int UNKNOWN = Edges.UNKNOWN;
    private static final int FULL = Edges.FULL;
    private static final int NONE = Edges.NONE;
    private static final int BEGIN = Edges.BEGIN;
    private static final int GO = Edges.GO;
    private static final int SHOW = Edges.SHOW;

    private static void due(String what, long got, long want) {
        Edges.due(what, got, want);
    }

    private static void dueFault(String text, int fault) {
        HiddenRuns x = new HiddenRuns();
        Edges.typeAll(x, text);
        due("fault of '" + text + "'", x.addSamples(), -100 - fault);
        due("no samples of '" + text + "'", x.count(1), 0);
        due("'" + text + "' stays", x.count(8), text.length());
    }

    private static void dueSamples(String text) {
        HiddenRuns x = new HiddenRuns();
        Edges.add(x, text);
        Edges.dueText("samples", Edges.samples(x), text);
        due("text stays", x.count(8), text.length());
    }

    private static String repeated(String part, int times, String end) {
        StringBuilder text = new StringBuilder();
        for (int time = 0; time < times; time++) {
            text.append(part);
        }
        return text.append(end).toString();
    }

    // ---- texts

    // "a text of at most 60 characters"
    static void sixtyCharactersAndNoMore() {
        HiddenRuns x = new HiddenRuns();
        for (int length = 1; length <= 60; length++) {
            due("type", x.type('a'), length);
            due("length", x.count(8), length);
        }
        due("the next one", x.type('a'), FULL);
        due("another one", x.type(';'), FULL);
        due("length", x.count(8), 60);
        due("clear", x.clearText(), 60);
        due("room again", x.type('a'), 1);
    }

    static void roomForTheLastCharacter() {
        HiddenRuns x = new HiddenRuns();
        Edges.typeAll(x, repeated("a", 59, ""));
        due("length", x.count(8), 59);
        due("last", x.type('b'), 60);
        due("none", x.type('b'), FULL);
    }

    // "empty at first"
    static void anEmptyTextAtFirst() {
        HiddenRuns x = new HiddenRuns();
        due("length", x.count(8), 0);
        due("clear", x.clearText(), 0);
        due("clear again", x.clearText(), 0);
    }

    // "or the length of the text if it ends too early (the empty text does)"
    static void theEmptyTextEndsTooEarly() {
        dueFault("", 0);
        HiddenRuns x = new HiddenRuns();
        Edges.add(x, "a");
        x.clearText();
        due("emptied", x.addSamples(), -100);
        due("samples", x.count(1), 1);
    }

    static void theTextEndsBehindASemicolon() {
        dueFault("a;", 2);
        dueFault("abcabca;", 8);
        dueFault("a;b;c;a;b;c;", 12);
        dueSamples("a;b");
    }

    static void theFullTextEndsTooEarly() {
        dueFault(repeated("a;", 30, ""), 60);
    }

    // "the index, from 0, of the first character that is not allowed at its place"
    static void theFaultIsTheFirstCharacter() {
        dueFault("d", 0);
        dueFault(";", 0);
        dueFault(";a", 0);
        dueFault("dabc", 0);
    }

    static void theFaultIsTheLastCharacter() {
        dueFault("ad", 1);
        dueFault("a;;", 2);
        dueFault(repeated("abcabca;", 7, "abcd"), 59);
        dueFault(repeated("abcabca;", 7, "abc;"), 60);
        dueFault(repeated("abcabc;", 8, "abc;"), 60);
        dueFault(repeated("abcabca;", 7, ";abc"), 56);
    }

    static void theFirstOfSeveralFaults() {
        dueFault("ab d;;", 2);
        dueFault("a;;d", 2);
        dueFault("aaaaaaaaaa", 7);
        dueFault("d;", 0);
    }

    // "(an eighth letter, too)"
    static void anEighthLetter() {
        dueSamples("abcabca");
        dueFault("abcabcab", 7);
        dueFault("abcabcab;a", 7);
        dueFault("a;abcabcab", 9);
        dueFault("abcabca;abcabcab", 15);
        dueSamples("abcabca;abcabca");
    }

    static void theEighthPlaceMayBeASemicolon() {
        dueSamples("abcabca;a");
        dueFault("abcabcad", 7);
        dueFault("abcabca;;", 8);
    }

    // "letters a, b or c", with ";" between two: none of the characters beside them
    static void theCharactersBesideThem() {
        dueSamples("a;b;c");
        char[] others = {'`', 'd', ':', '<', 'A', 'B', 'C', ' ', '\t', '\n', '0', '1', ',', 0, 127, 255,
            'a' + 256, 'c' + 256, ';' + 256, 'a' + 0x8000, '\ud800', '\uffff'};
        for (char other : others) {
            dueFault(String.valueOf(other), 0);
            dueFault("a" + other, 1);
            dueFault("a;" + other, 2);
            dueFault("abcabca" + other, 7);
        }
    }

    // "type(char character): any character"
    static void theLeastAndTheGreatestCharacter() {
        HiddenRuns x = new HiddenRuns();
        due("least", x.type('\0'), 1);
        due("greatest", x.type('\uffff'), 2);
        due("length", x.count(8), 2);
        due("fault", x.addSamples(), -100);
    }

    // "one or more samples": one, six, and as many as 60 characters hold
    static void fewAndManySamplesInAText() {
        dueSamples("c");
        dueSamples("a;b;c;c;b;a");
        dueSamples("abcabca;abcabca;abcabca;abcabca;abcabca;abcabca");
        HiddenRuns x = new HiddenRuns();
        Edges.typeAll(x, repeated("a;", 29, "aa"));
        due("thirty without a fault", x.addSamples(), FULL);
        Edges.typeAll(x, repeated("abcabca;", 7, "abca"));
        due("eight without a fault", x.addSamples(), FULL);
        due("samples", x.count(1), 0);
        due("no act", x.count(7), 0);
    }

    // ---- history

    // "A history of at most 4 states (of all this) is kept"
    static void fourStatesAreKept() {
        HiddenRuns x = new HiddenRuns();
        for (int act = 1; act <= 4; act++) {
            x.setBound(500 + act);
            due("kept", x.count(7), act);
        }
        for (int left = 3; left >= 0; left--) {
            due("undo", x.undo(), left);
            due("kept", x.count(7), left);
            due("bound", x.count(2), left == 0 ? 800 : 500 + left);
        }
        due("empty", x.undo(), NONE);
    }

    // "when one more is recorded, the oldest one is dropped"
    static void theFifthDropsTheOldest() {
        HiddenRuns x = new HiddenRuns();
        for (int act = 1; act <= 5; act++) {
            x.setBound(500 + act);
        }
        due("kept", x.count(7), 4);
        for (int left = 3; left >= 0; left--) {
            due("undo", x.undo(), left);
            due("bound", x.count(2), 501 + left);
        }
        due("the first is gone", x.undo(), NONE);
        due("bound", x.count(2), 501);
    }

    static void manyDropManyMore() {
        HiddenRuns x = new HiddenRuns();
        for (int act = 1; act <= 400; act++) {
            x.setBound(500 + act);
        }
        due("kept", x.count(7), 4);
        for (int left = 3; left >= 0; left--) {
            due("undo", x.undo(), left);
            due("bound", x.count(2), 896 + left);
        }
        due("empty", x.undo(), NONE);
    }

    // "undo() removes and restores the latest one": also with acts between
    static void undoneAndActedAgain() {
        HiddenRuns x = new HiddenRuns();
        for (int act = 1; act <= 6; act++) {
            x.setBound(500 + act);
        }
        due("undo", x.undo(), 3);
        due("undo", x.undo(), 2);
        x.setBound(700);
        due("kept", x.count(7), 3);
        x.setBound(701);
        x.setBound(702);
        due("full again", x.count(7), 4);
        int[] bounds = {701, 700, 504, 503};
        for (int index = 0; index < 4; index++) {
            due("undo", x.undo(), 3 - index);
            due("bound", x.count(2), bounds[index]);
        }
        due("empty", x.undo(), NONE);
    }

    // the empty history
    static void anEmptyHistoryAtFirst() {
        HiddenRuns x = new HiddenRuns();
        due("kept", x.count(7), 0);
        due("undo", x.undo(), NONE);
        due("undo again", x.undo(), NONE);
        due("kept", x.count(7), 0);
        Edges.dueText("as at first", Edges.state(x), Edges.state(new HiddenRuns()));
        x.setBound(600);
        due("one act", x.undo(), 0);
        due("empty again", x.undo(), NONE);
    }

    // "Each call of a method that is described as an act, and returns no error and not NONE, records"
    static void eachActRecordsOnce() {
        dueRecorded("setWeight", x -> x.setWeight(GO, 1, 0, 6), 1);
        dueRecorded("setWeight from 0", x -> x.setWeight(SHOW, 0, 1, 4), 0);
        dueRecorded("addState", HiddenRuns::addState, 2);
        dueRecorded("split", x -> x.split(1), 2);
        dueRecorded("join", x -> x.join(1, 0), 1);
        dueRecorded("removeState", x -> x.removeState(0), 1);
        dueRecorded("setBound", x -> x.setBound(1000), 800);
        dueRecorded("addSamples", HiddenRuns::addSamples, 2);
        dueRecorded("removeSample", x -> x.removeSample(0), 1);
        dueRecorded("learn", x -> x.learn(1), 1);
        dueRecorded("restore", HiddenRuns::restore, 2);
    }

    private static HiddenRuns recorded() {
        HiddenRuns x = new HiddenRuns();
        Edges.add(x, "ab;ca");
        x.keep();
        x.setWeight(SHOW, 0, 1, 0);
        return x;
    }

    private static void dueRecorded(String what, Edges.Call act, long want) {
        HiddenRuns x = recorded();
        String before = Edges.state(x);
        due("kept before " + what, x.count(7), 2);
        due(what, act.on(x), want);
        due("kept after " + what, x.count(7), 3);
        due(what + " did something", Edges.state(x).equals(before) ? 1 : 0, 0);
        due("undo " + what, x.undo(), 2);
        Edges.dueText("before " + what, Edges.state(x), before);
        due("undo what was before", x.undo(), 1);
        due("weight before", x.weight(SHOW, 0, 1, false), 1);
    }

    // an act that returns 0 returns no error
    static void actsThatReturnZeroRecord() {
        HiddenRuns x = new HiddenRuns();
        Edges.add(x, "a");
        due("the last sample goes", x.removeSample(0), 0);
        due("kept", x.count(7), 2);
        x.setWeight(BEGIN, 0, 0, 0);
        due("from 0", x.setWeight(BEGIN, 0, 0, 5), 0);
        due("kept", x.count(7), 4);
        HiddenRuns y = new HiddenRuns();
        y.keep();
        due("a snapshot without samples", y.restore(), 0);
        due("kept", y.count(7), 1);
    }

    // "This is one act."
    static void sixSamplesAreOneAct() {
        HiddenRuns x = new HiddenRuns();
        Edges.add(x, "ab;bcc;a;b;c;a");
        due("kept", x.count(7), 1);
        due("take all of them back", x.undo(), 0);
        due("none", x.count(1), 0);
    }

    static void twentyRoundsAreOneAct() {
        HiddenRuns x = Edges.model("413", "453/255/015", "064/645/154", "ab;bcc");
        String before = Edges.state(x);
        x.setBound(1000);
        x.undo();
        due("kept", x.count(7), 3);
        due("rounds", x.learn(20), 20);
        due("one act", x.count(7), 4);
        due("take all of them back", x.undo(), 3);
        Edges.dueText("before", Edges.state(x), before);
    }

    // what isn't described as an act records nothing
    static void whatIsNoActRecordsNothing() {
        Edges.Call[] calls = {x -> x.type('a'), HiddenRuns::clearText, HiddenRuns::keep, x -> x.sign(0, 0),
            x -> x.weight(GO, 1, 1, true), x -> x.ofSample(0, 0), x -> x.best(0, 0), x -> x.share(0, 0, 0),
            x -> x.likeliest(0, 0), x -> x.doubtful(0), x -> x.run(0, 0, 0), x -> x.next(0, 0), x -> x.count(4)};
        for (int index = 0; index < calls.length; index++) {
            HiddenRuns x = recorded();
            String before = Edges.state(x);
            due("call " + index + " is no error", calls[index].on(x) >= 0 ? 1 : 0, 1);
            due("kept after call " + index, x.count(7), 2);
            Edges.dueText("state after call " + index, Edges.state(x), before);
        }
        HiddenRuns y = recorded();
        due("undo", y.undo(), 1);
        due("undo records nothing", y.count(7), 1);
        due("undo", y.undo(), 0);
        due("undo records nothing", y.count(7), 0);
    }

    // "Such a state is everything but the text, the history and the snapshot."
    static void undoRestoresEverything() {
        HiddenRuns x = Edges.model("1234", "0123/3450/6012/3456", "123/456/012/345", "a;abcabca");
        String before = Edges.state(x);
        due("remove a sample", x.removeSample(1), 1);
        due("undo", x.undo(), 3);
        Edges.dueText("sample", Edges.state(x), before);
        due("remove a state", x.removeState(0), 3);
        due("add another", x.addState(), 3);
        x.undo();
        x.undo();
        Edges.dueText("states", Edges.state(x), before);
        due("bound", x.setBound(1000), 800);
        x.undo();
        Edges.dueText("bound", Edges.state(x), before);
        due("join", x.join(0, 3), 3);
        x.undo();
        Edges.dueText("joined", Edges.state(x), before);
    }

    static void undoLeavesTheText() {
        HiddenRuns x = new HiddenRuns();
        Edges.add(x, "ab");
        x.type('c');
        x.setBound(600);
        due("undo", x.undo(), 1);
        due("length", x.count(8), 3);
        x.clearText();
        due("undo", x.undo(), 0);
        due("no text comes back", x.count(8), 0);
        due("no sample", x.count(1), 0);
    }

    static void undoLeavesTheSnapshot() {
        HiddenRuns x = new HiddenRuns();
        x.setBound(600);
        x.keep();
        due("undo", x.undo(), 0);
        due("bound", x.count(2), 800);
        due("restore", x.restore(), 0);
        due("bound of the snapshot", x.count(2), 600);
        HiddenRuns y = new HiddenRuns();
        y.setBound(600);
        due("undo", y.undo(), 0);
        due("no snapshot came of it", y.restore(), NONE);
    }

    // "There is one snapshot, empty at first."
    static void noSnapshotAtFirst() {
        HiddenRuns x = new HiddenRuns();
        due("restore", x.restore(), NONE);
        Edges.add(x, "a");
        due("still none", x.restore(), NONE);
        due("sample", x.count(1), 1);
        due("kept", x.count(7), 1);
    }

    // "Takes a snapshot, in place of the one that was."
    static void theLatestSnapshotAlone() {
        HiddenRuns x = new HiddenRuns();
        due("keep none", x.keep(), 0);
        Edges.add(x, "a;b;c;a;b;c");
        due("keep six", x.keep(), 6);
        x.setBound(500);
        due("keep six again", x.keep(), 6);
        x.removeSample(0);
        x.setBound(1000);
        due("restore", x.restore(), 6);
        due("bound", x.count(2), 500);
        due("undo", x.undo(), 3);
        due("bound before", x.count(2), 1000);
        due("samples before", x.count(1), 5);
    }

    // "Restores the snapshot, which stays."
    static void theSnapshotStays() {
        HiddenRuns x = Edges.model("1234", "0123/3450/6012/3456", "123/456/012/345", "a;abcabca");
        x.setBound(1000);
        String kept = Edges.state(x);
        due("keep", x.keep(), 2);
        x.removeState(1);
        x.removeSample(0);
        due("restore", x.restore(), 2);
        Edges.dueText("restored", Edges.state(x), kept);
        x.setWeight(BEGIN, 0, 0, 6);
        x.setWeight(GO, 3, 3, 0);
        x.setWeight(SHOW, 3, 2, 0);
        x.removeSample(1);
        x.setBound(999);
        due("restore again", x.restore(), 2);
        Edges.dueText("restored again", Edges.state(x), kept);
        x.learn(20);
        due("and again", x.restore(), 2);
        Edges.dueText("and again restored", Edges.state(x), kept);
    }

    // "This is an act.": also if nothing becomes other by it
    static void restoringTheSameRecords() {
        HiddenRuns x = new HiddenRuns();
        x.keep();
        for (int kept = 1; kept <= 4; kept++) {
            due("restore", x.restore(), 0);
            due("kept", x.count(7), kept);
        }
        due("restore", x.restore(), 0);
        due("kept", x.count(7), 4);
        due("undo", x.undo(), 3);
    }

    static void restoreLeavesTextAndHistory() {
        HiddenRuns x = new HiddenRuns();
        x.keep();
        Edges.add(x, "ab;c");
        x.setBound(501);
        due("restore", x.restore(), 0);
        due("text", x.count(8), 4);
        due("kept", x.count(7), 3);
        due("undo", x.undo(), 2);
        due("bound", x.count(2), 501);
        due("samples", x.count(1), 2);
        due("undo", x.undo(), 1);
        due("bound", x.count(2), 800);
        due("undo", x.undo(), 0);
        due("samples", x.count(1), 0);
    }

    static void restoreDropsTheOldestToo() {
        HiddenRuns x = new HiddenRuns();
        x.keep();
        for (int act = 1; act <= 4; act++) {
            x.setBound(500 + act);
        }
        due("restore", x.restore(), 0);
        due("kept", x.count(7), 4);
        for (int left = 3; left >= 0; left--) {
            due("undo", x.undo(), left);
            due("bound", x.count(2), 501 + left);
        }
        due("empty", x.undo(), NONE);
    }

    // two objects have nothing in common
    static void anotherObjectStaysAsItIs() {
        HiddenRuns x = new HiddenRuns();
        HiddenRuns y = new HiddenRuns();
        Edges.add(x, "abc");
        x.setBound(600);
        x.keep();
        x.addState();
        due("no sample", y.sign(0, 0), UNKNOWN);
        due("no snapshot", y.restore(), NONE);
        due("no history", y.undo(), NONE);
        due("no text", y.clearText(), 0);
        Edges.dueText("as at first", Edges.state(y), "11 11/11 111/111 [] 800");
    }

    public static void main(String[] args) throws Exception {
        Edges.runAll(TextsAndHistoryEdgesTest.class);
    }
}
