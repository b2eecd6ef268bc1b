/**
 * The edges that the promises name: the ranges of what is handed in and, where several errors can
 * apply, their order. Ranges of states, signs, samples and places are in WeightsAndRunsEdgesTest,
 * those of rounds in LearningAndStatesEdgesTest.
 */
public final class PromisesEdgesTest {
    private static final int UNKNOWN = Edges.UNKNOWN;
    private static final int BAD_VALUE = Edges.BAD_VALUE;
    private static final int FULL = Edges.FULL;
    private static final int NOT_POSSIBLE = Edges.NOT_POSSIBLE;
    private static final int NONE = Edges.NONE;
    private static final int BEGIN = Edges.BEGIN;
    private static final int GO = Edges.GO;
    private static final int SHOW = Edges.SHOW;

    private static void due(String what, long got, long want) {
        Edges.due(what, got, want);
    }

    // "The constants"
    static void theConstants() {
        due("UNKNOWN", HiddenRuns.UNKNOWN, -1);
        due("BAD_VALUE", HiddenRuns.BAD_VALUE, -2);
        due("FULL", HiddenRuns.FULL, -3);
        due("NOT_POSSIBLE", HiddenRuns.NOT_POSSIBLE, -4);
        due("NONE", HiddenRuns.NONE, -5);
    }

    // ---- Promise 1

    // "two states with weights of 1, and no samples"
    static void everythingOfANewObject() {
        HiddenRuns x = new HiddenRuns();
        Edges.dueText("new", Edges.state(x), "11 11/11 111/111 [] 800");
        int[] counts = {2, 0, 800, 0, 0, 0, 0, 0, 0};
        for (int what = 0; what < counts.length; what++) {
            due("count " + what, x.count(what), counts[what]);
        }
    }

    // ---- Promise 2

    // "kind: 0 for beginning, 1 for going on, 2 for showing a sign"
    static void kindsToSet() {
        HiddenRuns x = new HiddenRuns();
        for (int kind : Edges.outside(0, 2)) {
            due("kind " + kind, x.setWeight(kind, 0, 0, 2), BAD_VALUE);
        }
        due("first kind", x.setWeight(0, 0, 0, 2), 1);
        Edges.dueWeights("first", x, "21", "11/11", "111/111");
        due("second kind", x.setWeight(1, 0, 0, 3), 1);
        Edges.dueWeights("second", x, "21", "31/11", "111/111");
        due("third kind", x.setWeight(2, 0, 0, 4), 1);
        Edges.dueWeights("third", x, "21", "31/11", "411/111");
    }

    // "0 for kind 0 (there is no other one then)"
    static void nothingButZeroToBeginWith() {
        HiddenRuns x = Edges.ofStates(4);
        due("0", x.setWeight(BEGIN, 3, 0, 5), 1);
        for (int to : Edges.outside(0, 0)) {
            due("to " + to, x.setWeight(BEGIN, 3, to, 6), UNKNOWN);
            due("weight of " + to, x.weight(BEGIN, 3, to, false), UNKNOWN);
            due("odds of " + to, x.weight(BEGIN, 3, to, true), UNKNOWN);
        }
        due("a state", x.setWeight(BEGIN, 0, 3, 6), UNKNOWN);
        Edges.dueWeights("set", x, "1115", "1111/1111/1111/1111", "111/111/111/111");
    }

    // "to: a state that is gone on to (kind 1), a sign (kind 2)"
    static void theLastStateAndTheLastSign() {
        HiddenRuns x = Edges.ofStates(4);
        due("last state", x.setWeight(GO, 0, 3, 2), 1);
        due("last sign", x.setWeight(SHOW, 0, 2, 3), 1);
        due("a state, but no sign", x.setWeight(SHOW, 0, 3, 2), UNKNOWN);
        due("no state", x.setWeight(GO, 0, 4, 2), UNKNOWN);
        Edges.dueWeights("set", x, "1111", "1112/1111/1111/1111", "113/111/111/111");
        HiddenRuns y = Edges.ofStates(1);
        due("a sign, but no state", y.setWeight(GO, 0, 1, 2), UNKNOWN);
        due("last sign", y.setWeight(SHOW, 0, 2, 2), 1);
    }

    // "BAD_VALUE (kind); UNKNOWN (state, or to); BAD_VALUE (weight); NONE if it is so already"
    static void orderOfSetWeight() {
        HiddenRuns x = new HiddenRuns();
        due("kind before state", x.setWeight(3, 2, 0, 1), BAD_VALUE);
        due("kind before to", x.setWeight(-1, 0, 9, 1), BAD_VALUE);
        due("state before weight", x.setWeight(BEGIN, 2, 0, 7), UNKNOWN);
        due("to before weight", x.setWeight(SHOW, 0, 3, 7), UNKNOWN);
        due("to of beginning before weight", x.setWeight(BEGIN, 0, 1, -1), UNKNOWN);
        due("weight before none", x.setWeight(SHOW, 0, 2, -1), BAD_VALUE);
        due("none", x.setWeight(SHOW, 0, 2, 1), NONE);
    }

    // "Returns the previous one .. NONE if it is so already"
    static void weightsThatAreSoAlready() {
        HiddenRuns x = new HiddenRuns();
        for (int kind = BEGIN; kind <= SHOW; kind++) {
            due("1 to 1", x.setWeight(kind, 1, 0, 1), NONE);
            due("1 to 0", x.setWeight(kind, 1, 0, 0), 1);
            due("0 to 0", x.setWeight(kind, 1, 0, 0), NONE);
            due("0 to 6", x.setWeight(kind, 1, 0, 6), 0);
            due("6 to 6", x.setWeight(kind, 1, 0, 6), NONE);
            due("6 to 5", x.setWeight(kind, 1, 0, 5), 6);
        }
    }

    // ---- Promises 3 and 4

    // "Returns its number; FULL if there are 4."
    static void numbersOfAddedStates() {
        HiddenRuns x = Edges.ofStates(1);
        for (int number = 1; number <= 3; number++) {
            due("add", x.addState(), number);
        }
        due("full", x.addState(), FULL);
    }

    // "Returns the number of its twin; UNKNOWN; FULL if there are 4."
    static void numbersOfTwins() {
        HiddenRuns x = Edges.ofStates(1);
        for (int number = 1; number <= 3; number++) {
            due("unknown", x.split(number), UNKNOWN);
            due("split", x.split(number - 1), number);
        }
        due("full", x.split(0), FULL);
        due("full", x.split(3), FULL);
        due("unknown before full", x.split(4), UNKNOWN);
        due("unknown before full", x.split(-1), UNKNOWN);
    }

    // ---- Promise 5

    // "UNKNOWN (one or other); BAD_VALUE if both are the same"
    static void orderOfJoin() {
        for (int states = 1; states <= 4; states++) {
            HiddenRuns x = Edges.ofStates(states);
            due("first with itself", x.join(0, 0), BAD_VALUE);
            due("last with itself", x.join(states - 1, states - 1), BAD_VALUE);
            due("the same above", x.join(states, states), UNKNOWN);
            due("the same below", x.join(-1, -1), UNKNOWN);
            due("one", x.join(states, 0), UNKNOWN);
            due("other", x.join(0, states), UNKNOWN);
            due("states", x.count(0), states);
        }
    }

    // "Returns how many states there are then"
    static void statesLeftByJoining() {
        HiddenRuns x = Edges.ofStates(4);
        for (int left = 3; left >= 1; left--) {
            due("join", x.join(left, left - 1), left);
            due("states", x.count(0), left);
        }
        due("alone", x.join(0, 1), UNKNOWN);
    }

    // ---- Promise 6

    // "UNKNOWN; NOT_POSSIBLE if it is the only one"
    static void orderOfRemoveState() {
        HiddenRuns x = Edges.ofStates(4);
        for (int left = 3; left >= 1; left--) {
            due("unknown", x.removeState(left + 1), UNKNOWN);
            due("remove", x.removeState(left), left);
        }
        due("unknown before not possible", x.removeState(1), UNKNOWN);
        due("unknown before not possible", x.removeState(-1), UNKNOWN);
        due("the only one", x.removeState(0), NOT_POSSIBLE);
    }

    // ---- Promise 7

    // "bound: 500 to 1000"
    static void boundsFrom500To1000() {
        HiddenRuns x = new HiddenRuns();
        due("least", x.setBound(500), 800);
        due("next to it", x.setBound(501), 500);
        due("greatest", x.setBound(1000), 501);
        due("next to it", x.setBound(999), 1000);
        for (int bound : Edges.outside(500, 1000)) {
            due("bound " + bound, x.setBound(bound), BAD_VALUE);
        }
        due("0", x.setBound(0), BAD_VALUE);
        due("-500", x.setBound(-500), BAD_VALUE);
        due("stays", x.count(2), 999);
    }

    // "NONE if it is so already"
    static void boundsThatAreSoAlready() {
        HiddenRuns x = new HiddenRuns();
        due("800", x.setBound(800), NONE);
        x.setBound(500);
        due("500", x.setBound(500), NONE);
        x.setBound(1000);
        due("1000", x.setBound(1000), NONE);
        due("800 again", x.setBound(800), 1000);
    }

    // ---- Promise 8

    // "-100 minus the fault of the text if it has one (which is an error); FULL .."
    static void orderOfAddSamples() {
        HiddenRuns x = new HiddenRuns();
        Edges.add(x, "a;b;c;a;b;c");
        due("no room", x.addSamples(), FULL);
        x.clearText();
        due("empty before full", x.addSamples(), -100);
        Edges.typeAll(x, "a;");
        due("too early before full", x.addSamples(), -102);
        Edges.typeAll(x, "d");
        due("fault before full", x.addSamples(), -100);
        Edges.typeAll(x, "a;b;c;a;b;c;a;b;c;");
        due("fault of more than six", x.addSamples(), -118);
    }

    // "Adds the samples of the text, which stays; all of them, or none."
    static void theTextIsAddedAgain() {
        HiddenRuns x = new HiddenRuns();
        Edges.add(x, "ab;c");
        due("again", x.addSamples(), 2);
        due("and again", x.addSamples(), 2);
        due("not once more", x.addSamples(), FULL);
        Edges.dueText("six", Edges.samples(x), "ab;c;ab;c;ab;c");
        due("text", x.count(8), 4);
        due("acts", x.count(7), 3);
        due("one goes", x.removeSample(5), 5);
        due("no room for two", x.addSamples(), FULL);
        due("none of two", x.count(1), 5);
    }

    // ---- Promise 9

    // "those behind it get numbers that are 1 less"
    static void theFirstAndTheLastSampleAreRemoved() {
        String[] due = {"bb;ccccccc;a;b;abc", "a;ccccccc;a;b;abc", "a;bb;a;b;abc",
            "a;bb;ccccccc;b;abc", "a;bb;ccccccc;a;abc", "a;bb;ccccccc;a;b"};
        for (int gone = 0; gone < 6; gone++) {
            HiddenRuns x = new HiddenRuns();
            Edges.add(x, "a;bb;ccccccc;a;b;abc");
            due("remove", x.removeSample(gone), 5);
            Edges.dueText("without " + gone, Edges.samples(x), due[gone]);
            due("no sixth", x.sign(5, 0), UNKNOWN);
            due("undo", x.undo(), 1);
            Edges.dueText("with it", Edges.samples(x), "a;bb;ccccccc;a;b;abc");
        }
    }

    // "Returns how many there are then; UNKNOWN."
    static void samplesLeftByRemoving() {
        HiddenRuns x = new HiddenRuns();
        due("of none", x.removeSample(0), UNKNOWN);
        Edges.add(x, "a;b;c;a;b;c");
        for (int left = 5; left >= 0; left--) {
            due("unknown", x.removeSample(left + 1), UNKNOWN);
            due("remove", x.removeSample(left), left);
        }
        due("of none again", x.removeSample(0), UNKNOWN);
    }

    // ---- Promise 10

    // "BAD_VALUE; NONE if the first round changes none"
    static void orderOfLearn() {
        HiddenRuns x = new HiddenRuns();
        due("without samples", x.learn(0), BAD_VALUE);
        due("without samples", x.learn(21), BAD_VALUE);
        due("without samples", x.learn(1), NONE);
        due("without samples", x.learn(20), NONE);
        HiddenRuns y = Edges.model("6", "6", "600", "aa");
        due("learnt already", y.learn(0), BAD_VALUE);
        due("learnt already", y.learn(1), NONE);
        due("learnt already", y.learn(20), NONE);
    }

    // ---- Promises 11 and 12

    // "Returns the length of the text then; FULL if it has 60 characters."
    static void lengthsOfTexts() {
        HiddenRuns x = new HiddenRuns();
        for (int length = 0; length <= 60; length += 20) {
            for (int typed = 1; typed <= length; typed++) {
                due("type", x.type('a'), typed);
            }
            due("next", x.type('b'), length == 60 ? FULL : length + 1);
            due("clear", x.clearText(), length == 60 ? 60 : length + 1);
            due("length", x.count(8), 0);
            due("clear again", x.clearText(), 0);
        }
    }

    // ---- Promises 13, 14 and 15

    // "Returns the number of states that are left; NONE if the history is empty."
    static void statesLeftByUndoing() {
        HiddenRuns x = new HiddenRuns();
        due("empty", x.undo(), NONE);
        x.addState();
        due("one", x.undo(), 0);
        due("empty again", x.undo(), NONE);
        for (int act = 0; act < 5; act++) {
            x.setBound(501 + act);
        }
        for (int left = 3; left >= 0; left--) {
            due("left", x.undo(), left);
        }
        due("empty at last", x.undo(), NONE);
    }

    // "Returns how many samples there are": none and six
    static void samplesKeptAndRestored() {
        HiddenRuns x = new HiddenRuns();
        due("no snapshot", x.restore(), NONE);
        due("keep none", x.keep(), 0);
        Edges.add(x, "a;b;c;a;b;c");
        due("restore none", x.restore(), 0);
        due("none", x.count(1), 0);
        due("undo", x.undo(), 1);
        due("keep six", x.keep(), 6);
        x.removeSample(0);
        due("restore six", x.restore(), 6);
        due("six", x.count(1), 6);
    }

    // ---- Promise 16

    // "kind: 0 to 2, as for setWeight()" .. "BAD_VALUE (kind); UNKNOWN (state, or to)"
    static void orderOfWeight() {
        HiddenRuns x = new HiddenRuns();
        for (int kind : Edges.outside(0, 2)) {
            due("weight of kind " + kind, x.weight(kind, 0, 0, false), BAD_VALUE);
            due("odds of kind " + kind, x.weight(kind, 0, 0, true), BAD_VALUE);
            due("kind before state", x.weight(kind, 2, 0, false), BAD_VALUE);
            due("kind before to", x.weight(kind, 0, -1, true), BAD_VALUE);
        }
        due("first kind", x.weight(0, 1, 0, false), 1);
        due("last kind", x.weight(2, 1, 2, true), 333);
        due("state", x.weight(0, 2, 0, true), UNKNOWN);
        due("to", x.weight(2, 1, 3, true), UNKNOWN);
    }

    // ---- Promise 18

    // "what: 0 for its total, 1 for how many runs count, 2 for the weight of its best run"
    static void numbersOfASample() {
        HiddenRuns x = Edges.model("12", "11/11", "111/111", "a");
        due("total", x.ofSample(0, 0), 3);
        due("runs", x.ofSample(0, 1), 2);
        due("best", x.ofSample(0, 2), 2);
        for (int what : Edges.outside(0, 2)) {
            due("what " + what, x.ofSample(0, what), BAD_VALUE);
            due("sample before what", x.ofSample(1, what), UNKNOWN);
            due("sample before what", x.ofSample(-1, what), UNKNOWN);
        }
    }

    // "(0 without one)"
    static void noBestRun() {
        HiddenRuns x = Edges.model("00", "11/11", "111/111", "a");
        due("weight", x.ofSample(0, 2), 0);
        due("total", x.ofSample(0, 0), 0);
        due("runs", x.ofSample(0, 1), 0);
        due("what before none", x.ofSample(0, 3), BAD_VALUE);
        x.setWeight(BEGIN, 1, 0, 1);
        due("least weight", x.ofSample(0, 2), 1);
    }

    // ---- Promises 19, 20 and 21

    // "UNKNOWN ..; NONE if there is no best run" / "if the total is 0"
    static void unknownBeforeNone() {
        HiddenRuns x = Edges.model("00", "11/11", "111/111", "ab");
        due("best", x.best(0, 1), NONE);
        due("best, place", x.best(0, 2), UNKNOWN);
        due("best, sample", x.best(1, 0), UNKNOWN);
        due("share", x.share(0, 1, 1), NONE);
        due("share, place", x.share(0, 2, 1), UNKNOWN);
        due("share, sample", x.share(1, 0, 1), UNKNOWN);
        due("share, state", x.share(0, 0, 2), UNKNOWN);
        due("likeliest", x.likeliest(0, 1), NONE);
        due("likeliest, place", x.likeliest(0, 2), UNKNOWN);
        due("likeliest, sample", x.likeliest(1, 0), UNKNOWN);
        due("next", x.next(0, 2), NONE);
        due("next, sign", x.next(0, 3), UNKNOWN);
        due("next, sample", x.next(1, 2), UNKNOWN);
        due("run", x.run(0, 0, 1), NONE);
        due("run, place", x.run(0, 0, 2), UNKNOWN);
        due("run, sample", x.run(1, 0, 0), UNKNOWN);
        due("doubtful", x.doubtful(0), 0);
    }

    // "Tells the state with the greatest weight at a place, of several the lowest one."
    static void theLowestOfSeveralLikeliest() {
        HiddenRuns x = Edges.model("1111", "1000/0100/0010/0001", "111/122/122/112", "a;b;c;bbbbbbb;ac");
        due("all four", x.likeliest(0, 0), 0);
        due("second and third", x.likeliest(1, 0), 1);
        due("the last three", x.likeliest(2, 0), 1);
        due("seven signs, first", x.likeliest(3, 0), 1);
        due("seven signs, last", x.likeliest(3, 6), 1);
        x.setWeight(SHOW, 3, 2, 3);
        due("the last one", x.likeliest(2, 0), 3);
        due("its first place", x.likeliest(4, 0), 3);
        due("its last place", x.likeliest(4, 1), 3);
        x.setWeight(BEGIN, 0, 0, 3);
        due("the first again", x.likeliest(2, 0), 0);
    }

    // ---- Promise 22

    // "the doubtful places (a set, as bits)"
    static void bitsOfAllPlaces() {
        for (int length = 1; length <= 7; length++) {
            HiddenRuns x = new HiddenRuns();
            Edges.add(x, "abcabca".substring(0, length));
            due("all of " + length, x.doubtful(0), (1 << length) - 1);
            x.setBound(500);
            due("none of " + length, x.doubtful(0), 0);
        }
    }

    // ---- Promise 23

    // "rank: a rank among them, in their order, from 0"
    static void theFirstAndTheLastRank() {
        HiddenRuns x = Edges.model("101", "101/000/101", "111/000/111", "a;aa");
        due("first of two", x.run(0, 0, 0), 0);
        due("last of two", x.run(0, 1, 0), 2);
        due("no third", x.run(0, 2, 0), NONE);
        due("last of four", x.run(1, 3, 0), 2);
        due("last of four", x.run(1, 3, 1), 2);
        due("no fifth", x.run(1, 4, 0), NONE);
        due("greatest", x.run(1, Integer.MAX_VALUE, 0), NONE);
        due("below", x.run(1, -1, 0), BAD_VALUE);
        due("least", x.run(1, Integer.MIN_VALUE, 0), BAD_VALUE);
    }

    // "UNKNOWN (sample or place); BAD_VALUE if rank is negative; NONE if there are not so many"
    static void orderOfRun() {
        HiddenRuns x = Edges.model("00", "11/11", "111/111", "ab");
        due("sample before rank", x.run(1, -1, 0), UNKNOWN);
        due("place before rank", x.run(0, -1, 2), UNKNOWN);
        due("rank before none", x.run(0, -1, 1), BAD_VALUE);
        due("none", x.run(0, 0, 1), NONE);
    }

    // ---- Promise 24

    // "the share of this weight in the weights of all three signs together"
    static void theNextSignOfASampleOfOneAndOfSeven() {
        HiddenRuns x = Edges.model("1", "1", "123", "a;aaaaaaa;ccccccc");
        int[] shares = {166, 333, 500};
        for (int sample = 0; sample < 3; sample++) {
            for (int sign = 0; sign < 3; sign++) {
                due("next", x.next(sample, sign), shares[sign]);
            }
        }
        HiddenRuns y = Edges.model("1", "1", "200", "a");
        due("all", y.next(0, 0), 1000);
        due("nothing", y.next(0, 1), 0);
        due("nothing", y.next(0, 2), 0);
    }

    // "times the weight of its last state to go on to the state"
    static void theLastStateGoesOn() {
        // behind ab only the state 1, which goes on to 0 alone
        HiddenRuns x = Edges.model("10", "01/10", "105/010", "ab;a");
        due("a of ab", x.next(0, 0), 166);
        due("c of ab", x.next(0, 2), 833);
        due("b of a", x.next(1, 1), 1000);
        due("a of a", x.next(1, 0), 0);
    }

    // "NONE if these are 0"
    static void noNextSign() {
        HiddenRuns x = Edges.model("10", "01/00", "111/111", "a;aa;aaa");
        due("goes on once", x.next(0, 0), 333);
        due("goes on no more", x.next(1, 0), NONE);
        due("but has a total", x.ofSample(1, 0), 1);
        due("no total", x.next(2, 0), NONE);
        due("sign before none", x.next(1, 3), UNKNOWN);
        for (int sign = 0; sign < 3; sign++) {
            x.setWeight(SHOW, 1, sign, 0);
        }
        due("nothing to show", x.next(0, 0), NONE);
        due("still a total", x.ofSample(0, 0), 1);
    }

    // ---- Promise 25

    // "what: 0 .. 8"
    static void whatIsCounted() {
        HiddenRuns x = new HiddenRuns();
        for (int what : Edges.outside(0, 8)) {
            due("count " + what, x.count(what), BAD_VALUE);
        }
        due("first", x.count(0), 2);
        due("last", x.count(8), 0);
        x.type('a');
        due("last", x.count(8), 1);
    }

    // "0 for the states, 1 for the samples, .. 3 for the signs of all samples together"
    static void theFewestAndTheMost() {
        HiddenRuns x = Edges.ofStates(1);
        due("one state", x.count(0), 1);
        due("no signs", x.count(3), 0);
        Edges.add(x, "a");
        due("one sign", x.count(3), 1);
        HiddenRuns y = Edges.ofStates(4);
        Edges.add(y, "abcabca;abcabca;abcabca;abcabca;abcabca;abcabca");
        due("four states", y.count(0), 4);
        due("six samples", y.count(1), 6);
        due("all signs", y.count(3), 42);
        due("all doubtful", y.count(4), 42);
        due("none without total", y.count(5), 0);
        due("all on the best run", y.count(6), 0);
        for (int state = 0; state < 4; state++) {
            y.setWeight(BEGIN, state, 0, 0);
        }
        due("none doubtful", y.count(4), 0);
        due("all without total", y.count(5), 6);
        due("no best runs", y.count(6), 0);
        due("full history", y.count(7), 4);
    }

    // "6 for places at which the state of the best run is not the likeliest one"
    static void placesOffTheBestRun() {
        // the best run is 00 (4); 10 (3) and 11 (3) together are likelier at the first place
        HiddenRuns x = Edges.model("43", "10/11", "111/111", "aa");
        Edges.dueText("best", Edges.best(x, 0, 2), "00");
        due("likeliest first", x.likeliest(0, 0), 1);
        due("likeliest last", x.likeliest(0, 1), 0);
        due("one place", x.count(6), 1);
        Edges.add(x, "aa;a;c");
        due("of two samples", x.count(6), 2);
        x.setWeight(BEGIN, 1, 0, 2);
        // 00 (4), 10 (2), 11 (2): as likely, and 0 is lower
        due("as likely", x.count(6), 0);
    }

    // "(of samples that have a best run)"
    static void placesOffOfNoBestRun() {
        HiddenRuns x = Edges.model("43", "10/11", "110/110", "aa;ac;ca");
        due("the first sample alone", x.count(6), 1);
        x.setWeight(SHOW, 1, 2, 1);
        // ac: 11 alone; ca: 10 (3), 11 (3): at the last place both are as likely
        due("best of them", x.count(6), 1);
        // the second place alone would have a state 1
        HiddenRuns y = Edges.model("11", "11/11", "010/110", "ca;cab");
        due("no best run", y.best(0, 1), NONE);
        due("none of them", y.count(6), 0);
    }

    static void placesOffABestRunOfWeightOne() {
        // 00, 10 and 11
        HiddenRuns x = Edges.model("11", "10/11", "111/111", "aa");
        due("weight", x.ofSample(0, 2), 1);
        due("first place", x.count(6), 1);
        HiddenRuns y = Edges.model("11", "10/11", "111/111", "aaaaaaa");
        // eight runs, 0000000 to 1111111: 7, 6 and 5 of them have a 1 at the first three places
        due("likeliest at the third", y.likeliest(0, 2), 1);
        due("as likely at the fourth", y.likeliest(0, 3), 0);
        due("places", y.count(6), 3);
    }

    // "7 for the states in the history, 8 for the length of the text"
    static void countsOfHistoryAndText() {
        HiddenRuns x = new HiddenRuns();
        for (int times = 1; times <= 60; times++) {
            x.type('a');
            x.setBound(500 + times);
            due("history", x.count(7), Math.min(times, 4));
            due("text", x.count(8), times);
        }
        due("no more", x.type('a'), FULL);
        due("text", x.count(8), 60);
    }

    public static void main(String[] args) throws Exception {
        Edges.runAll(PromisesEdgesTest.class);
    }
}
