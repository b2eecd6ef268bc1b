/** One method for each promise of the document: ordinary inputs, the named edges, wrong inputs. */
public final class PromisesTest {
    private static final int UNKNOWN = HiddenRuns.UNKNOWN;
    private static final int BAD_VALUE = HiddenRuns.BAD_VALUE;
    private static final int FULL = HiddenRuns.FULL;
    private static final int NOT_POSSIBLE = HiddenRuns.NOT_POSSIBLE;
    private static final int NONE = HiddenRuns.NONE;

    private static final int BEGIN = 0;
    private static final int GO = 1;
    private static final int SHOW = 2;

    private static int wrong = 0;

    private static void due(String what, long got, long want) {
        if (got != want) {
            wrong++;
            System.out.println(what + " answered " + got + ", due is " + want);
        }
    }

    private static void typeAll(HiddenRuns x, String text) {
        x.clearText();
        for (int index = 0; index < text.length(); index++) {
            due("type " + text.charAt(index), x.type(text.charAt(index)), index + 1);
        }
    }

    private static HiddenRuns withSamples(String text) {
        HiddenRuns x = new HiddenRuns();
        typeAll(x, text);
        due("samples " + text, x.addSamples(), text.split(";").length);
        return x;
    }

    private static void set(HiddenRuns x, int kind, int state, int to, int weight) {
        int previous = x.weight(kind, state, to, false);
        int want = previous == weight ? NONE : previous;
        due("set " + kind + " " + state + " " + to, x.setWeight(kind, state, to, weight), want);
        due("set weight " + kind + " " + state + " " + to, x.weight(kind, state, to, false), weight);
    }

    /** The weights of a state, or of the beginnings, as digits. */
    private static void dueRow(String what, HiddenRuns x, int kind, int state, String digits) {
        StringBuilder got = new StringBuilder();
        int size = kind == SHOW ? 3 : x.count(0);
        for (int member = 0; member < size; member++) {
            got.append(kind == BEGIN ? x.weight(kind, member, 0, false) : x.weight(kind, state, member, false));
        }
        if (!got.toString().equals(digits)) {
            wrong++;
            System.out.println(what + ": weights " + kind + " of " + state + " are " + got + ", due is " + digits);
        }
    }

    private static void dueRun(HiddenRuns x, int sample, int rank, String digits) {
        for (int place = 0; place < digits.length(); place++) {
            due("run " + rank + " place " + place, x.run(sample, rank, place), digits.charAt(place) - '0');
        }
    }

    private static void dueBest(HiddenRuns x, int sample, String digits) {
        for (int place = 0; place < digits.length(); place++) {
            due("best place " + place, x.best(sample, place), digits.charAt(place) - '0');
        }
    }

    // ---- Promise 1

    private static void newObject() {
        HiddenRuns x = new HiddenRuns();
        int[] counts = {2, 0, 800, 0, 0, 0, 0, 0, 0};
        for (int what = 0; what < counts.length; what++) {
            due("new count " + what, x.count(what), counts[what]);
        }
        dueRow("new", x, BEGIN, 0, "11");
        for (int state = 0; state < 2; state++) {
            dueRow("new", x, GO, state, "11");
            dueRow("new", x, SHOW, state, "111");
        }
        due("new undo", x.undo(), NONE);
        due("new restore", x.restore(), NONE);
        due("new clearText", x.clearText(), 0);
        due("new sample", x.sign(0, 0), UNKNOWN);
        due("UNKNOWN", UNKNOWN, -1);
        due("BAD_VALUE", BAD_VALUE, -2);
        due("FULL", FULL, -3);
        due("NOT_POSSIBLE", NOT_POSSIBLE, -4);
        due("NONE", NONE, -5);
    }

    // ---- Promise 2

    private static void setWeights() {
        HiddenRuns x = new HiddenRuns();
        due("set begin", x.setWeight(BEGIN, 1, 0, 6), 1);
        due("set begin again", x.setWeight(BEGIN, 1, 0, 6), NONE);
        due("set begin to 0", x.setWeight(BEGIN, 1, 0, 0), 6);
        due("set go", x.setWeight(GO, 0, 1, 2), 1);
        due("set show", x.setWeight(SHOW, 1, 2, 3), 1);
        dueRow("set", x, BEGIN, 0, "10");
        dueRow("set", x, GO, 0, "12");
        dueRow("set", x, GO, 1, "11");
        dueRow("set", x, SHOW, 0, "111");
        dueRow("set", x, SHOW, 1, "113");
        due("acts of set", x.count(7), 4);
        due("bad kind first", x.setWeight(3, 9, 9, 9), BAD_VALUE);
        due("bad kind below", x.setWeight(-1, 0, 0, 0), BAD_VALUE);
        due("unknown state before weight", x.setWeight(BEGIN, 2, 0, 7), UNKNOWN);
        due("unknown state below", x.setWeight(GO, -1, 0, 0), UNKNOWN);
        due("no other to of beginning", x.setWeight(BEGIN, 0, 1, 0), UNKNOWN);
        due("unknown to state", x.setWeight(GO, 0, 2, 0), UNKNOWN);
        due("unknown to state below", x.setWeight(GO, 0, -1, 0), UNKNOWN);
        due("unknown to sign", x.setWeight(SHOW, 0, 3, 0), UNKNOWN);
        due("unknown to sign below", x.setWeight(SHOW, 0, -1, 0), UNKNOWN);
        due("weight above", x.setWeight(SHOW, 0, 0, 7), BAD_VALUE);
        due("weight below", x.setWeight(SHOW, 0, 0, -1), BAD_VALUE);
        due("extremes", x.setWeight(Integer.MAX_VALUE, Integer.MIN_VALUE, 0, 0), BAD_VALUE);
        due("extreme state", x.setWeight(GO, Integer.MAX_VALUE, Integer.MAX_VALUE, 0), UNKNOWN);
        due("errors record nothing", x.count(7), 4);
        dueRow("after errors", x, SHOW, 0, "111");
        due("undo set", x.undo(), 3);
        dueRow("undone", x, SHOW, 1, "111");
    }

    // ---- Promise 3

    private static void addStates() {
        HiddenRuns x = new HiddenRuns();
        for (int cell = 0; cell < 2; cell++) {
            set(x, GO, cell, 0, 5);
            set(x, GO, cell, 1, 4);
            set(x, BEGIN, cell, 0, 3);
        }
        due("add third", x.addState(), 2);
        dueRow("added", x, BEGIN, 0, "331");
        dueRow("added", x, GO, 0, "541");
        dueRow("added", x, GO, 1, "541");
        dueRow("added", x, GO, 2, "111");
        dueRow("added", x, SHOW, 2, "111");
        due("remove it", x.removeState(0), 2);
        // the number that became free must not keep the weights that it had
        due("add again", x.addState(), 2);
        dueRow("added again", x, GO, 0, "411");
        dueRow("added again", x, GO, 1, "111");
        dueRow("added again", x, GO, 2, "111");
        dueRow("added again", x, BEGIN, 0, "311");
        due("add fourth", x.addState(), 3);
        due("history", x.count(7), 4);
        due("undo", x.undo(), 3);
        due("add fourth again", x.addState(), 3);
        due("add fifth", x.addState(), FULL);
        due("full records nothing", x.count(7), 4);
        due("states", x.count(0), 4);
    }

    // ---- Promise 4

    private static void splitStates() {
        HiddenRuns x = new HiddenRuns();
        set(x, BEGIN, 0, 0, 2);
        set(x, GO, 0, 0, 3);
        set(x, GO, 0, 1, 4);
        set(x, GO, 1, 0, 5);
        set(x, GO, 1, 1, 6);
        set(x, SHOW, 0, 0, 0);
        set(x, SHOW, 0, 2, 2);
        due("split unknown", x.split(2), UNKNOWN);
        due("split below", x.split(-1), UNKNOWN);
        due("split", x.split(0), 2);
        dueRow("split", x, BEGIN, 0, "212");
        dueRow("split", x, GO, 0, "343");
        dueRow("split", x, GO, 1, "565");
        dueRow("split", x, GO, 2, "343");
        dueRow("split", x, SHOW, 2, "012");
        due("split last", x.split(1), 3);
        dueRow("split last", x, GO, 0, "3434");
        dueRow("split last", x, GO, 1, "5656");
        dueRow("split last", x, GO, 2, "3434");
        dueRow("split last", x, GO, 3, "5656");
        dueRow("split last", x, SHOW, 3, "111");
        due("split full", x.split(0), FULL);
        due("split unknown when full", x.split(4), UNKNOWN);
        due("undo split", x.undo(), 3);
        due("states", x.count(0), 3);
    }

    // ---- Promise 5

    private static void joinStates() {
        HiddenRuns x = new HiddenRuns();
        x.addState();
        x.addState();
        String[] going = {"1020", "0113", "2010", "4301"};
        for (int from = 0; from < 4; from++) {
            for (int to = 0; to < 4; to++) {
                set(x, GO, from, to, going[from].charAt(to) - '0');
            }
            set(x, BEGIN, from, 0, from + 1);
            set(x, SHOW, from, 1, from + 2);
        }
        due("join unknown", x.join(4, 4), UNKNOWN);
        due("join unknown first", x.join(-1, 0), UNKNOWN);
        due("join unknown other", x.join(0, 4), UNKNOWN);
        due("join same", x.join(3, 3), BAD_VALUE);
        due("join", x.join(3, 1), 3);
        dueRow("joined", x, BEGIN, 0, "163");
        dueRow("joined", x, GO, 0, "102");
        dueRow("joined", x, GO, 1, "461");
        dueRow("joined", x, GO, 2, "201");
        dueRow("joined", x, SHOW, 1, "262");
        dueRow("joined", x, SHOW, 0, "121");
        due("join down", x.join(0, 1), 2);
        dueRow("joined down", x, BEGIN, 0, "63");
        dueRow("joined down", x, GO, 0, "63");
        dueRow("joined down", x, GO, 1, "21");
        due("join to one", x.join(1, 0), 1);
        dueRow("one", x, BEGIN, 0, "6");
        dueRow("one", x, GO, 0, "6");
        due("join alone", x.join(0, 0), BAD_VALUE);
        due("join without other", x.join(0, 1), UNKNOWN);
        due("undo join", x.undo(), 3);
        dueRow("undone", x, GO, 0, "63");
    }

    private static void joinSumsBelowTheLimit() {
        HiddenRuns x = new HiddenRuns();
        set(x, GO, 0, 0, 0);
        set(x, GO, 0, 1, 2);
        set(x, GO, 1, 0, 0);
        due("join small", x.join(0, 1), 1);
        dueRow("small", x, GO, 0, "3");
        dueRow("small", x, BEGIN, 0, "2");
        dueRow("small", x, SHOW, 0, "222");
    }

    // ---- Promise 6

    private static void removeStates() {
        HiddenRuns x = withSamples("ab");
        x.addState();
        String[] going = {"012", "345", "601"};
        for (int from = 0; from < 3; from++) {
            for (int to = 0; to < 3; to++) {
                set(x, GO, from, to, going[from].charAt(to) - '0');
            }
            set(x, BEGIN, from, 0, from + 3);
            set(x, SHOW, from, 0, from + 2);
        }
        due("remove unknown", x.removeState(3), UNKNOWN);
        due("remove below", x.removeState(-1), UNKNOWN);
        due("remove middle", x.removeState(1), 2);
        dueRow("removed", x, BEGIN, 0, "35");
        dueRow("removed", x, GO, 0, "02");
        dueRow("removed", x, GO, 1, "61");
        dueRow("removed", x, SHOW, 1, "411");
        due("samples stay", x.count(1), 1);
        due("remove last", x.removeState(1), 1);
        dueRow("removed last", x, GO, 0, "0");
        due("unknown before only one", x.removeState(1), UNKNOWN);
        due("only one", x.removeState(0), NOT_POSSIBLE);
        due("undo remove", x.undo(), 3);
        dueRow("undone", x, GO, 1, "61");
    }

    // ---- Promise 7

    private static void setBounds() {
        HiddenRuns x = new HiddenRuns();
        due("least", x.setBound(500), 800);
        due("greatest", x.setBound(1000), 500);
        due("same", x.setBound(1000), NONE);
        due("below", x.setBound(499), BAD_VALUE);
        due("above", x.setBound(1001), BAD_VALUE);
        due("bound", x.count(2), 1000);
        due("acts", x.count(7), 2);
        due("undo", x.undo(), 1);
        due("bound undone", x.count(2), 500);
    }

    // ---- Promise 8

    private static void addSamples() {
        HiddenRuns x = new HiddenRuns();
        String[] faulty = {"", ";", "a;", "a;;b", "d", "ab;cd", "aaaaaaaa", "aaaaaaab", "A", "a b", "abc;abcabca;",
            "a;aaaaaaad", "\u0161", "a\u0161", "a`", ";a", "aaaaaaaa;d"};
        int[] faults = {0, 0, 2, 2, 0, 4, 7, 7, 0, 1, 12, 9, 0, 1, 1, 0, 7};
        for (int index = 0; index < faulty.length; index++) {
            typeAll(x, faulty[index]);
            due("fault of '" + faulty[index] + "'", x.addSamples(), -100 - faults[index]);
        }
        due("faults are no acts", x.count(7), 0);
        typeAll(x, "a;bc;ccccccc");
        due("add three", x.addSamples(), 3);
        due("text stays", x.count(8), 12);
        due("one act", x.count(7), 1);
        due("signs", x.count(3), 10);
        due("sign", x.sign(1, 1), 2);
        due("add three more", x.addSamples(), 3);
        due("six", x.count(1), 6);
        due("same behind", x.sign(4, 1), 2);
        typeAll(x, "a");
        due("full", x.addSamples(), FULL);
        typeAll(x, "a;");
        due("fault before full", x.addSamples(), -102);
        due("undo", x.undo(), 1);
        typeAll(x, "a;b;c;a");
        due("all or none", x.addSamples(), FULL);
        due("none added", x.count(1), 3);
        due("signs stay", x.count(3), 10);
        due("nothing recorded", x.count(7), 1);
        HiddenRuns y = new HiddenRuns();
        for (int index = 0; index < 60; index++) {
            y.type(index % 2 == 0 ? 'a' : ';');
        }
        due("fault at the end of a full text", y.addSamples(), -160);
    }

    // ---- Promise 9

    private static void removeSamples() {
        HiddenRuns x = withSamples("a;bb;ccc;abca");
        due("remove unknown", x.removeSample(4), UNKNOWN);
        due("remove below", x.removeSample(-1), UNKNOWN);
        due("remove", x.removeSample(1), 3);
        due("moved", x.sign(1, 2), 2);
        due("moved length", x.sign(1, 3), UNKNOWN);
        due("moved last", x.sign(2, 3), 0);
        due("first stays", x.sign(0, 0), 0);
        due("signs", x.count(3), 8);
        due("remove last", x.removeSample(2), 2);
        due("remove first", x.removeSample(0), 1);
        due("remaining", x.sign(0, 0), 2);
        due("undo", x.undo(), 3);
        due("first again", x.sign(0, 0), 0);
        due("remove 0", x.removeSample(0), 1);
        due("remove 0", x.removeSample(0), 0);
        due("nothing left", x.removeSample(0), UNKNOWN);
        due("text adds again", x.addSamples(), 4);
        due("length anew", x.sign(0, 1), UNKNOWN);
        typeAll(x, "a;b;c;a;b;c");
        due("no room", x.addSamples(), FULL);
        for (int left = 3; left >= 0; left--) {
            due("remove all", x.removeSample(0), left);
        }
        due("six fit", x.addSamples(), 6);
        due("remove of six", x.removeSample(5), 5);
    }

    // ---- Promise 10

    private static void learning() {
        HiddenRuns x = withSamples("ab");
        due("rounds 0", x.learn(0), BAD_VALUE);
        due("rounds 21", x.learn(21), BAD_VALUE);
        due("rounds below", x.learn(-1), BAD_VALUE);
        // all shares are 500, or 250 for each of the four steps; c is never shown
        due("one round", x.learn(1), 1);
        dueRow("learnt", x, BEGIN, 0, "66");
        dueRow("learnt", x, GO, 0, "66");
        dueRow("learnt", x, GO, 1, "66");
        dueRow("learnt", x, SHOW, 0, "660");
        dueRow("learnt", x, SHOW, 1, "660");
        due("one act", x.count(7), 2);
        due("second round changes nothing", x.learn(20), NONE);
        due("nothing recorded", x.count(7), 2);
        due("undo", x.undo(), 1);
        dueRow("undone", x, SHOW, 0, "111");
        due("until nothing changes", x.learn(20), 1);
    }

    private static void learningRounds() {
        HiddenRuns x = withSamples("aab");
        set(x, GO, 0, 1, 0);
        set(x, SHOW, 1, 1, 2);
        // runs 000 (1), 100 (1), 110 (1), 111 (2): total 5
        due("total", x.ofSample(0, 0), 5);
        // beginnings 200, 800; on from 0: 400, 0; on from 1: 400, 200 + 400 * 2 = 1000
        // showing a: 0: 200 + 400, 1: 800 + 600; showing b: 0: 600, 1: 400
        due("one round", x.learn(1), 1);
        dueRow("learnt", x, BEGIN, 0, "26");
        dueRow("learnt", x, GO, 0, "60");
        dueRow("learnt", x, GO, 1, "26");
        dueRow("learnt", x, SHOW, 0, "660");
        dueRow("learnt", x, SHOW, 1, "620");
        due("undo", x.undo(), 3);
        HiddenRuns y = withSamples("aab");
        set(y, GO, 0, 1, 0);
        set(y, SHOW, 1, 1, 2);
        int rounds = 0;
        while (rounds < 20 && y.learn(1) == 1) {
            rounds++;
        }
        due("as many rounds at once", x.learn(20), rounds);
        due("more than one round", rounds > 1 ? 1 : 0, 1);
        for (int state = 0; state < 2; state++) {
            for (int to = 0; to < 2; to++) {
                due("same weight", x.weight(GO, state, to, false), y.weight(GO, state, to, false));
            }
        }
        due("one act for all rounds", x.count(7), 4);
        due("undo all rounds", x.undo(), 3);
        dueRow("all undone", x, GO, 0, "10");
    }

    private static void learningWithoutCounts() {
        HiddenRuns x = new HiddenRuns();
        due("no samples", x.learn(20), NONE);
        x = withSamples("a;c");
        set(x, SHOW, 0, 2, 0);
        set(x, SHOW, 1, 2, 0);
        set(x, SHOW, 1, 0, 0);
        set(x, GO, 0, 1, 3);
        // only the state 0 shows a, no sample goes on, and c has no total
        due("round", x.learn(20), 1);
        dueRow("learnt", x, BEGIN, 0, "60");
        dueRow("learnt", x, SHOW, 0, "600");
        dueRow("no count stays", x, SHOW, 1, "010");
        dueRow("no going on stays", x, GO, 0, "13");
        HiddenRuns y = withSamples("c");
        set(y, SHOW, 0, 2, 0);
        set(y, SHOW, 1, 2, 0);
        due("no sample with a total", y.learn(1), NONE);
    }

    // ---- Promises 11 and 12

    private static void typing() {
        HiddenRuns x = new HiddenRuns();
        char[] any = {0, 1, '\n', 'a', 127, 255, 256, '\uffff'};
        for (int index = 0; index < 60; index++) {
            due("type", x.type(any[index % any.length]), index + 1);
        }
        due("full", x.type('a'), FULL);
        due("full again", x.type(';'), FULL);
        due("length", x.count(8), 60);
        due("typing is no act", x.count(7), 0);
        due("fault", x.addSamples(), -100);
        due("clear", x.clearText(), 60);
        due("empty", x.count(8), 0);
        due("clear empty", x.clearText(), 0);
        due("type anew", x.type('a'), 1);
        due("first letter", x.addSamples(), 1);
        x.type('b');
        due("undo", x.undo(), 0);
        due("undo leaves the text", x.count(8), 2);
        due("clearing is no act", x.undo(), NONE);
    }

    // ---- Promise 13

    private static void undoing() {
        HiddenRuns x = withSamples("abc");
        for (int bound = 501; bound <= 505; bound++) {
            x.setBound(bound);
        }
        due("four are kept", x.count(7), 4);
        for (int left = 3; left >= 0; left--) {
            due("undo", x.undo(), left);
            due("bound", x.count(2), 501 + left);
        }
        due("empty", x.undo(), NONE);
        due("oldest is dropped", x.count(2), 501);
        due("samples stay", x.count(1), 1);
        due("new act", x.removeSample(0), 0);
        due("undo it", x.undo(), 0);
        due("sample again", x.sign(0, 2), 2);
    }

    // ---- Promises 14 and 15

    private static void snapshots() {
        HiddenRuns x = withSamples("ab;c");
        set(x, SHOW, 0, 1, 4);
        due("keep", x.keep(), 2);
        due("keeping is no act", x.count(7), 2);
        due("remove", x.removeSample(0), 1);
        x.addState();
        x.setBound(600);
        x.clearText();
        due("restore", x.restore(), 2);
        due("states", x.count(0), 2);
        due("bound", x.count(2), 800);
        due("sign", x.sign(0, 1), 1);
        dueRow("restored", x, SHOW, 0, "141");
        due("text stays out", x.count(8), 0);
        due("history stays out", x.count(7), 4);
        due("undo restore", x.undo(), 3);
        due("bound again", x.count(2), 600);
        due("states again", x.count(0), 3);
        set(x, SHOW, 0, 1, 6);
        due("snapshot stays", x.restore(), 2);
        dueRow("restored again", x, SHOW, 0, "141");
        due("restore the same is an act", x.restore(), 2);
        due("undo it", x.undo(), 3);
        x.removeSample(1);
        due("keep in place", x.keep(), 1);
        x.removeSample(0);
        due("undo leaves the snapshot", x.undo(), 3);
        due("restore the later", x.restore(), 1);
    }

    // ---- Promise 16

    private static void weights() {
        HiddenRuns x = new HiddenRuns();
        due("bad kind first", x.weight(3, 9, 9, false), BAD_VALUE);
        due("bad kind below", x.weight(-1, 0, 0, true), BAD_VALUE);
        due("unknown state", x.weight(BEGIN, 2, 0, true), UNKNOWN);
        due("unknown state below", x.weight(SHOW, -1, 0, true), UNKNOWN);
        due("to of beginning", x.weight(BEGIN, 1, 1, false), UNKNOWN);
        due("to state", x.weight(GO, 1, 2, false), UNKNOWN);
        due("to below", x.weight(GO, 1, -1, false), UNKNOWN);
        due("to sign", x.weight(SHOW, 1, 3, false), UNKNOWN);
        due("thirds, first", x.weight(SHOW, 0, 0, true), 334);
        due("thirds, second", x.weight(SHOW, 0, 1, true), 333);
        set(x, SHOW, 1, 0, 1);
        set(x, SHOW, 1, 1, 4);
        set(x, SHOW, 1, 2, 1);
        // rests of 4 each, two to give
        due("166 and one", x.weight(SHOW, 1, 0, true), 167);
        due("666 and one", x.weight(SHOW, 1, 1, true), 667);
        due("166 and none", x.weight(SHOW, 1, 2, true), 166);
        set(x, SHOW, 0, 0, 3);
        set(x, SHOW, 0, 1, 2);
        set(x, SHOW, 0, 2, 2);
        // 428 rest 4, 285 rest 5 twice: the two later ones have the greatest rests
        due("428", x.weight(SHOW, 0, 0, true), 428);
        due("285 and one", x.weight(SHOW, 0, 1, true), 286);
        due("285 and one, last", x.weight(SHOW, 0, 2, true), 286);
        for (int sign = 0; sign < 3; sign++) {
            set(x, SHOW, 0, sign, 0);
        }
        due("no odds", x.weight(SHOW, 0, 2, true), 0);
        set(x, GO, 0, 0, 0);
        due("0 odds", x.weight(GO, 0, 0, true), 0);
        due("all odds", x.weight(GO, 0, 1, true), 1000);
        set(x, BEGIN, 1, 0, 6);
        due("beginning", x.weight(BEGIN, 0, 0, true), 143);
        due("beginning of 1", x.weight(BEGIN, 1, 0, true), 857);
        x.removeState(1);
        due("odds of those there are", x.weight(BEGIN, 0, 0, true), 1000);
        due("no odds of one", x.weight(GO, 0, 0, true), 0);
    }

    // ---- Promise 17

    private static void signs() {
        HiddenRuns x = withSamples("abc;cabcabc");
        String[] samples = {"abc", "cabcabc"};
        for (int sample = 0; sample < samples.length; sample++) {
            for (int place = 0; place < samples[sample].length(); place++) {
                due("sign", x.sign(sample, place), samples[sample].charAt(place) - 'a');
            }
        }
        due("place above", x.sign(0, 3), UNKNOWN);
        due("place of the longest", x.sign(1, 7), UNKNOWN);
        due("place below", x.sign(1, -1), UNKNOWN);
        due("sample above", x.sign(2, 0), UNKNOWN);
        due("sample below", x.sign(-1, 0), UNKNOWN);
        due("extremes", x.sign(Integer.MAX_VALUE, Integer.MIN_VALUE), UNKNOWN);
    }

    // ---- Promise 18

    private static void numbersOfSamples() {
        HiddenRuns x = withSamples("ccccccc;a");
        due("total of ones", x.ofSample(0, 0), 128);
        due("runs of ones", x.ofSample(0, 1), 128);
        due("best of ones", x.ofSample(0, 2), 1);
        due("unknown before what", x.ofSample(2, 9), UNKNOWN);
        due("below", x.ofSample(-1, 0), UNKNOWN);
        due("what above", x.ofSample(0, 3), BAD_VALUE);
        due("what below", x.ofSample(0, -1), BAD_VALUE);
        set(x, BEGIN, 0, 0, 6);
        for (int state = 0; state < 2; state++) {
            set(x, GO, 0, state, 6);
            set(x, SHOW, 0, 2, 6);
        }
        due("best of sixes", x.ofSample(0, 2), 78364164096L);
        due("split", x.split(0), 2);
        due("join", x.removeState(1), 2);
        due("split again", x.split(0), 2);
        due("and again", x.split(0), 3);
        due("greatest total", x.ofSample(0, 0), 1283918464548864L);
        due("all runs", x.ofSample(0, 1), 16384);
        due("greatest weight", x.ofSample(0, 2), 78364164096L);
        due("short total", x.ofSample(1, 0), 24);
        set(x, SHOW, 0, 2, 0);
        due("runs without 0", x.ofSample(0, 1), 2187);
        for (int state = 1; state < 4; state++) {
            set(x, SHOW, state, 2, 0);
        }
        due("total 0", x.ofSample(0, 0), 0);
        due("no runs", x.ofSample(0, 1), 0);
        due("no best", x.ofSample(0, 2), 0);
    }

    // ---- Promise 19

    private static void bestRuns() {
        HiddenRuns x = withSamples("abc;a");
        dueBest(x, 0, "000");
        set(x, SHOW, 1, 1, 2);
        dueBest(x, 0, "010");
        set(x, GO, 0, 1, 0);
        // 000 weighs 1, 110 and 111 and 010 are 2, 2 and 0
        dueBest(x, 0, "110");
        set(x, BEGIN, 0, 0, 2);
        // now 000, 110 and 111 weigh 2: the first one is taken
        dueBest(x, 0, "000");
        due("weight", x.ofSample(0, 2), 2);
        due("place above", x.best(0, 3), UNKNOWN);
        due("place of the other", x.best(1, 1), UNKNOWN);
        due("place below", x.best(0, -1), UNKNOWN);
        due("sample above", x.best(2, 0), UNKNOWN);
        due("sample below", x.best(-1, 0), UNKNOWN);
        set(x, BEGIN, 0, 0, 0);
        set(x, BEGIN, 1, 0, 0);
        due("none", x.best(0, 0), NONE);
        due("unknown before none", x.best(0, 3), UNKNOWN);
    }

    // ---- Promises 20 and 21

    private static void shares() {
        HiddenRuns x = withSamples("aab;b");
        set(x, GO, 0, 1, 0);
        set(x, SHOW, 1, 1, 2);
        // runs 000 (1), 100 (1), 110 (1), 111 (2)
        int[] lower = {200, 400, 600};
        int[] greatest = {1, 1, 0};
        for (int place = 0; place < 3; place++) {
            due("share of 0", x.share(0, place, 0), lower[place]);
            due("share of 1", x.share(0, place, 1), 1000 - lower[place]);
            due("likeliest", x.likeliest(0, place), greatest[place]);
        }
        due("rounded down", x.share(1, 0, 1), 666);
        due("rounded down", x.share(1, 0, 0), 333);
        due("share, sample", x.share(2, 0, 0), UNKNOWN);
        due("share, sample below", x.share(-1, 0, 0), UNKNOWN);
        due("share, place", x.share(0, 3, 0), UNKNOWN);
        due("share, place below", x.share(0, -1, 0), UNKNOWN);
        due("share, state", x.share(0, 0, 2), UNKNOWN);
        due("share, state below", x.share(0, 0, -1), UNKNOWN);
        due("likeliest, sample", x.likeliest(2, 0), UNKNOWN);
        due("likeliest, place", x.likeliest(1, 1), UNKNOWN);
        due("likeliest, place below", x.likeliest(1, -1), UNKNOWN);
        set(x, SHOW, 1, 1, 1);
        due("the lowest of equals", x.likeliest(1, 0), 0);
        set(x, SHOW, 0, 1, 0);
        set(x, SHOW, 1, 1, 0);
        due("share of none", x.share(0, 0, 0), NONE);
        due("likeliest of none", x.likeliest(0, 0), NONE);
        due("unknown state of none", x.share(0, 0, 2), UNKNOWN);
        due("unknown place of none", x.likeliest(0, 3), UNKNOWN);
    }

    // ---- Promise 22

    private static void doubts() {
        HiddenRuns x = withSamples("aab;c");
        set(x, GO, 0, 1, 0);
        set(x, SHOW, 1, 1, 2);
        // the greatest shares are 800, 600 and 600, and 500 at the other sample
        due("at the bound", x.doubtful(0), 6);
        due("other", x.doubtful(1), 1);
        due("all", x.count(4), 3);
        x.setBound(801);
        due("one below the bound", x.doubtful(0), 7);
        x.setBound(600);
        due("all at least 600", x.doubtful(0), 0);
        due("other still", x.doubtful(1), 1);
        x.setBound(500);
        due("none", x.count(4), 0);
        x.setBound(1000);
        due("all at 1000", x.doubtful(0), 7);
        due("unknown", x.doubtful(2), UNKNOWN);
        due("below", x.doubtful(-1), UNKNOWN);
        set(x, BEGIN, 0, 0, 0);
        due("certain beginning", x.doubtful(0), 6);
        set(x, BEGIN, 1, 0, 0);
        due("no total, no doubt", x.doubtful(0), 0);
    }

    // ---- Promise 23

    private static void runs() {
        HiddenRuns x = withSamples("aab;a");
        String[] all = {"000", "001", "010", "011", "100", "101", "110", "111"};
        for (int rank = 0; rank < all.length; rank++) {
            dueRun(x, 0, rank, all[rank]);
        }
        due("not so many", x.run(0, 8, 0), NONE);
        due("far too many", x.run(0, Integer.MAX_VALUE, 0), NONE);
        set(x, GO, 0, 1, 0);
        dueRun(x, 0, 0, "000");
        dueRun(x, 0, 1, "100");
        dueRun(x, 0, 2, "110");
        dueRun(x, 0, 3, "111");
        due("four only", x.run(0, 4, 0), NONE);
        set(x, BEGIN, 0, 0, 0);
        dueRun(x, 0, 0, "100");
        set(x, SHOW, 0, 1, 0);
        dueRun(x, 0, 0, "111");
        due("one only", x.run(0, 1, 2), NONE);
        due("negative", x.run(0, -1, 0), BAD_VALUE);
        due("unknown sample before rank", x.run(2, -1, 0), UNKNOWN);
        due("sample below", x.run(-1, 0, 0), UNKNOWN);
        due("unknown place before rank", x.run(1, -1, 1), UNKNOWN);
        due("place below", x.run(1, 0, -1), UNKNOWN);
        set(x, SHOW, 1, 1, 0);
        due("none at all", x.run(0, 0, 0), NONE);
        due("negative before none", x.run(0, Integer.MIN_VALUE, 0), BAD_VALUE);
    }

    // ---- Promise 24

    private static void nextSigns() {
        HiddenRuns x = withSamples("a;c");
        set(x, BEGIN, 1, 0, 2);
        set(x, GO, 0, 1, 3);
        set(x, SHOW, 0, 1, 4);
        set(x, SHOW, 1, 2, 0);
        // behind a: 0 (1) and 1 (2); on to 0: 1 + 2 = 3, on to 1: 3 + 2 = 5
        // a: 3 + 5, b: 3 * 4 + 5, c: 3; 28 in all
        due("next a", x.next(0, 0), 285);
        due("next b", x.next(0, 1), 607);
        due("next c", x.next(0, 2), 107);
        due("unknown sample", x.next(2, 0), UNKNOWN);
        due("sample below", x.next(-1, 0), UNKNOWN);
        due("unknown sign", x.next(0, 3), UNKNOWN);
        due("sign below", x.next(0, -1), UNKNOWN);
        set(x, GO, 0, 0, 0);
        set(x, GO, 0, 1, 0);
        due("c goes on to nothing", x.next(1, 0), NONE);
        // behind a only 1 (2) goes on: 2 to 0 and 2 to 1; 4, 10 and 2 of 16
        due("a still goes on", x.next(0, 0), 250);
        set(x, SHOW, 0, 2, 0);
        due("no total", x.next(1, 2), NONE);
        due("unknown sign of none", x.next(1, 3), UNKNOWN);
    }

    private static void greatestNextSigns() {
        HiddenRuns x = withSamples("aaaaaaa");
        x.removeState(1);
        set(x, BEGIN, 0, 0, 6);
        set(x, GO, 0, 0, 6);
        set(x, SHOW, 0, 0, 6);
        set(x, SHOW, 0, 1, 5);
        set(x, SHOW, 0, 2, 6);
        for (int states = 1; states < 4; states++) {
            due("split", x.split(0), states);
        }
        due("next a", x.next(0, 0), 352);
        due("next b", x.next(0, 1), 294);
        due("next c", x.next(0, 2), 352);
        due("share", x.share(0, 6, 3), 250);
        x.setWeight(SHOW, 3, 0, 0);
        due("share of three", x.share(0, 6, 2), 333);
        due("learn with the greatest sums", x.learn(1), 1);
        dueRow("learnt", x, BEGIN, 0, "6660");
        dueRow("learnt", x, SHOW, 0, "600");
        dueRow("learnt", x, GO, 0, "6660");
        dueRow("without a count", x, GO, 3, "6666");
    }

    // ---- Promise 25

    private static void counts() {
        HiddenRuns x = withSamples("aab;c;bbb");
        set(x, GO, 0, 1, 0);
        set(x, SHOW, 1, 1, 2);
        x.setBound(700);
        due("states", x.count(0), 2);
        due("samples", x.count(1), 3);
        due("bound", x.count(2), 700);
        due("signs", x.count(3), 7);
        // aab: shares 800, 600, 600; c: 500; bbb: 000 (1), 100 (2), 110 (4), 111 (8): 933, 800, 533
        due("doubtful", x.count(4), 4);
        due("without total", x.count(5), 0);
        // best 111 of aab, 0 of c, 111 of bbb; the likeliest are 110, 0 and 111
        due("off best", x.count(6), 1);
        due("history", x.count(7), 4);
        due("text", x.count(8), 9);
        due("above", x.count(9), BAD_VALUE);
        due("below", x.count(-1), BAD_VALUE);
        set(x, SHOW, 0, 2, 0);
        due("c of the other", x.count(5), 0);
        set(x, SHOW, 1, 2, 0);
        due("c without total", x.count(5), 1);
        due("c is not doubtful", x.count(4), 3);
        due("c has no best", x.count(6), 1);
        due("counting is no act", x.count(7), 4);
    }

    /** The example of README.md; its answers stand there. */
    private static void exampleOfReadme() {
        HiddenRuns x = withSamples("aab;abba");
        set(x, SHOW, 0, 0, 5);
        due("example best", x.best(0, 2), 0);
        due("example share", x.share(0, 2, 1), 500);
        due("example learn", x.learn(20), 9);
        due("example undo", x.undo(), 2);
        due("example weight", x.weight(SHOW, 0, 0, false), 5);
    }

    public static void main(String[] args) {
        newObject();
        setWeights();
        addStates();
        splitStates();
        joinStates();
        joinSumsBelowTheLimit();
        removeStates();
        setBounds();
        addSamples();
        removeSamples();
        learning();
        learningRounds();
        learningWithoutCounts();
        typing();
        undoing();
        snapshots();
        weights();
        signs();
        numbersOfSamples();
        bestRuns();
        shares();
        doubts();
        runs();
        nextSigns();
        greatestNextSigns();
        counts();
        exampleOfReadme();
        System.out.println(wrong == 0 ? "all promises are kept" : wrong + " answers are not as due");
        if (wrong != 0) {
            System.exit(1);
        }
    }
}
