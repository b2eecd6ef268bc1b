/**
 * The edges that the document's terms name, each with a test of its own on both sides: use, states
 * and weights, samples and runs. The comment above a test is the sentence that it holds.
 */
public final class WeightsAndRunsEdgesTest {
    private static final int UNKNOWN = Edges.UNKNOWN;
    private static final int BAD_VALUE = Edges.BAD_VALUE;
    private static final int FULL = Edges.FULL;
    private static final int NOT_POSSIBLE = Edges.NOT_POSSIBLE;
    private static final int NONE = Edges.NONE;
    private static final int BEGIN = Edges.BEGIN;
    private static final int GO = Edges.GO;
    private static final int SHOW = Edges.SHOW;

    private static void due(String what, long got, long want) {
        Edges.due(what, got, want);
    }

    // "An object is used for at most 512 calls after it has been made"
    static void theCall512StillAnswers() {
        HiddenRuns x = new HiddenRuns();
        due("call 1", x.setBound(501), 800);
        for (int call = 2; call <= 511; call++) {
            due("call " + call, x.setBound(500 + call % 2), 501 - call % 2);
        }
        due("call 512", x.undo(), 3);
    }

    static void all512CallsMayBeDear() {
        HiddenRuns x = Edges.model("6543", "6543/5436/4365/3654", "654/465/546/636", "abcabca;bbbbbbb;cccccca");
        int first = x.learn(20);
        due("learns", first > 0 ? 1 : 0, 1);
        for (int call = 0; call < 200; call++) {
            due("undo " + call, x.undo(), 3);
            due("learn " + call, x.learn(20), first);
        }
    }

    // ---- states and weights

    // "There are 1 to 4 states"
    static void aStateIsLeft() {
        HiddenRuns x = new HiddenRuns();
        due("two to one", x.removeState(0), 1);
        due("the last one", x.removeState(0), NOT_POSSIBLE);
        due("states", x.count(0), 1);
        due("it is still there", x.weight(BEGIN, 0, 0, false), 1);
    }

    static void fourStatesAndNoMore() {
        HiddenRuns x = new HiddenRuns();
        due("third", x.addState(), 2);
        due("fourth", x.addState(), 3);
        due("fifth", x.addState(), FULL);
        due("fifth by a split", x.split(0), FULL);
        due("states", x.count(0), 4);
        due("room again", x.removeState(3), 3);
        due("fourth by a split", x.split(2), 3);
        due("fifth by a split", x.split(3), FULL);
    }

    // "(2 at first)"
    static void twoStatesAtFirst() {
        HiddenRuns x = new HiddenRuns();
        due("states", x.count(0), 2);
        due("second", x.weight(BEGIN, 1, 0, false), 1);
        due("third", x.weight(BEGIN, 2, 0, false), UNKNOWN);
    }

    // "numbered from 0"
    static void theFirstAndTheLastState() {
        for (int states = 1; states <= 4; states++) {
            HiddenRuns x = Edges.ofStates(states);
            Edges.add(x, "a");
            int last = states - 1;
            for (int state = 0; state <= last; state++) {
                due("begins", x.weight(BEGIN, state, 0, false), 1);
                due("goes on", x.weight(GO, state, last, false), 1);
                due("is gone on to", x.weight(GO, last, state, false), 1);
                due("shows", x.weight(SHOW, state, 2, false), 1);
                due("sets", x.setWeight(SHOW, state, 1, 2), 1);
                due("share", x.share(0, 0, state), 1000 / states);
            }
        }
    }

    static void noStateBesideThem() {
        for (int states = 1; states <= 4; states++) {
            HiddenRuns x = Edges.ofStates(states);
            Edges.add(x, "a");
            for (int state : Edges.outside(0, states - 1)) {
                due("begin " + state, x.weight(BEGIN, state, 0, false), UNKNOWN);
                due("go " + state, x.weight(GO, state, 0, false), UNKNOWN);
                due("go to " + state, x.weight(GO, 0, state, false), UNKNOWN);
                due("odds to " + state, x.weight(GO, 0, state, true), UNKNOWN);
                due("show " + state, x.weight(SHOW, state, 0, true), UNKNOWN);
                due("set begin " + state, x.setWeight(BEGIN, state, 0, 2), UNKNOWN);
                due("set go " + state, x.setWeight(GO, state, 0, 2), UNKNOWN);
                due("set go to " + state, x.setWeight(GO, 0, state, 2), UNKNOWN);
                due("set show " + state, x.setWeight(SHOW, state, 0, 2), UNKNOWN);
                due("split " + state, x.split(state), UNKNOWN);
                due("join " + state, x.join(state, 0), UNKNOWN);
                due("join with " + state, x.join(0, state), UNKNOWN);
                due("remove " + state, x.removeState(state), UNKNOWN);
                due("share " + state, x.share(0, 0, state), UNKNOWN);
            }
            due("states", x.count(0), states);
        }
    }

    // "three signs, a, b and c, numbered from 0"
    static void threeSigns() {
        HiddenRuns x = new HiddenRuns();
        Edges.add(x, "abc");
        for (int sign = 0; sign < 3; sign++) {
            due("letter", x.sign(0, sign), sign);
            due("weight", x.weight(SHOW, 1, sign, false), 1);
            due("set", x.setWeight(SHOW, 1, sign, 2), 1);
        }
        due("next first", x.next(0, 0), 333);
        due("next last", x.next(0, 2), 333);
        for (int sign : Edges.outside(0, 2)) {
            due("weight " + sign, x.weight(SHOW, 1, sign, false), UNKNOWN);
            due("odds " + sign, x.weight(SHOW, 1, sign, true), UNKNOWN);
            due("set " + sign, x.setWeight(SHOW, 1, sign, 3), UNKNOWN);
            due("next " + sign, x.next(0, sign), UNKNOWN);
        }
    }

    // four states do not make a fourth sign, and one state still shows three
    static void asManySignsWithAnyStates() {
        HiddenRuns x = Edges.ofStates(4);
        due("no fourth sign", x.weight(SHOW, 3, 3, false), UNKNOWN);
        due("fourth state", x.weight(GO, 3, 3, false), 1);
        HiddenRuns y = Edges.ofStates(1);
        due("third sign", y.weight(SHOW, 0, 2, false), 1);
        due("no second state", y.weight(GO, 0, 1, false), UNKNOWN);
    }

    // "a weight of going on to each state (itself too)"
    static void aStateGoesOnToItself() {
        for (int states = 1; states <= 4; states++) {
            HiddenRuns x = Edges.ofStates(states);
            for (int state = 0; state < states; state++) {
                due("at first", x.weight(GO, state, state, false), 1);
                due("set", x.setWeight(GO, state, state, 5), 1);
                due("is set", x.weight(GO, state, state, false), 5);
            }
        }
        HiddenRuns y = Edges.model("1", "5", "111", "aaa");
        due("weighs in runs", y.ofSample(0, 0), 25);
    }

    // "each is 0 to 6"
    static void weightsFromZeroToSix() {
        HiddenRuns x = new HiddenRuns();
        for (int kind = BEGIN; kind <= SHOW; kind++) {
            due("least", x.setWeight(kind, 1, 0, 0), 1);
            due("is least", x.weight(kind, 1, 0, false), 0);
            due("greatest", x.setWeight(kind, 1, 0, 6), 0);
            due("is greatest", x.weight(kind, 1, 0, false), 6);
            for (int weight : Edges.outside(0, 6)) {
                due("weight " + weight, x.setWeight(kind, 1, 0, weight), BAD_VALUE);
            }
            due("stays", x.weight(kind, 1, 0, false), 6);
        }
    }

    static void eachWeightBetweenToo() {
        HiddenRuns x = new HiddenRuns();
        due("to 6", x.setWeight(GO, 0, 1, 6), 1);
        for (int weight = 5; weight >= 0; weight--) {
            due("one less", x.setWeight(GO, 0, 1, weight), weight + 1);
            due("is so", x.weight(GO, 0, 1, false), weight);
        }
    }

    // "(1 at first)"
    static void weightsOfOneAtFirst() {
        Edges.dueWeights("at first", new HiddenRuns(), "11", "11/11", "111/111");
    }

    // ---- samples and runs

    // "There are at most 6 samples"
    static void sixSamplesOneByOne() {
        HiddenRuns x = new HiddenRuns();
        Edges.typeAll(x, "a");
        for (int samples = 1; samples <= 6; samples++) {
            due("add", x.addSamples(), 1);
            due("samples", x.count(1), samples);
        }
        due("seventh", x.addSamples(), FULL);
        due("still six", x.count(1), 6);
        due("room again", x.removeSample(5), 5);
        due("sixth again", x.addSamples(), 1);
    }

    static void sixSamplesAtOnce() {
        HiddenRuns x = new HiddenRuns();
        Edges.typeAll(x, "a;b;c;a;b;c;a");
        due("seven", x.addSamples(), FULL);
        due("none of them", x.count(1), 0);
        Edges.add(x, "a;b;c;a;b;c");
        due("six", x.count(1), 6);
        due("the sixth", x.sign(5, 0), 2);
    }

    static void roomForTheRestOnly() {
        HiddenRuns x = new HiddenRuns();
        Edges.add(x, "a;b;c;a");
        Edges.typeAll(x, "a;b;c");
        due("one too many", x.addSamples(), FULL);
        due("none of them", x.count(1), 4);
        Edges.add(x, "ab;cc");
        Edges.dueText("six", Edges.samples(x), "a;b;c;a;ab;cc");
    }

    static void sixOfSevenSigns() {
        HiddenRuns x = new HiddenRuns();
        String text = "aaaaaab;bbbbbbc;ccccccb;abcabca;cccccca;bbbbbba";
        Edges.add(x, text);
        Edges.dueText("samples", Edges.samples(x), text);
        due("signs", x.count(3), 42);
        due("last of all", x.sign(5, 6), 0);
    }

    static void aShorterSampleWhereALongerOneWas() {
        HiddenRuns x = new HiddenRuns();
        Edges.add(x, "a;b;c;a;b;ccccccc");
        x.removeSample(5);
        Edges.add(x, "b");
        Edges.dueText("six", Edges.samples(x), "a;b;c;a;b;b");
        due("no second sign", x.sign(5, 1), UNKNOWN);
        due("total", x.ofSample(5, 0), 2);
    }

    // "numbered from 0"
    static void theFirstAndTheLastSample() {
        HiddenRuns x = new HiddenRuns();
        Edges.typeAll(x, "c");
        for (int samples = 1; samples <= 6; samples++) {
            due("add", x.addSamples(), 1);
            for (int sample = 0; sample < samples; sample += Math.max(1, samples - 1)) {
                due("sign", x.sign(sample, 0), 2);
                due("total", x.ofSample(sample, 0), 2);
                due("best", x.best(sample, 0), 0);
                due("share", x.share(sample, 0, 0), 500);
                due("likeliest", x.likeliest(sample, 0), 0);
                due("doubtful", x.doubtful(sample), 1);
                due("run", x.run(sample, 1, 0), 1);
                due("next", x.next(sample, 2), 333);
            }
        }
    }

    static void noSampleBesideThem() {
        for (int samples = 0; samples <= 6; samples += 3) {
            HiddenRuns x = new HiddenRuns();
            if (samples > 0) {
                Edges.add(x, "a;b;c;a;b;c".substring(0, 2 * samples - 1));
            }
            for (int sample : Edges.outside(0, samples - 1)) {
                due("sign " + sample, x.sign(sample, 0), UNKNOWN);
                due("total " + sample, x.ofSample(sample, 0), UNKNOWN);
                due("runs " + sample, x.ofSample(sample, 1), UNKNOWN);
                due("weight of best " + sample, x.ofSample(sample, 2), UNKNOWN);
                due("best " + sample, x.best(sample, 0), UNKNOWN);
                due("share " + sample, x.share(sample, 0, 0), UNKNOWN);
                due("likeliest " + sample, x.likeliest(sample, 0), UNKNOWN);
                due("doubtful " + sample, x.doubtful(sample), UNKNOWN);
                due("run " + sample, x.run(sample, 0, 0), UNKNOWN);
                due("next " + sample, x.next(sample, 0), UNKNOWN);
                due("remove " + sample, x.removeSample(sample), UNKNOWN);
            }
            due("samples", x.count(1), samples);
        }
    }

    // "a sample is a row of 1 to 7 signs"
    static void aSampleOfOneSign() {
        HiddenRuns x = new HiddenRuns();
        Edges.add(x, "b");
        due("signs", x.count(3), 1);
        due("total", x.ofSample(0, 0), 2);
        due("runs", x.ofSample(0, 1), 2);
        due("best weight", x.ofSample(0, 2), 1);
        due("best", x.best(0, 0), 0);
        due("doubtful", x.doubtful(0), 1);
        due("next", x.next(0, 0), 333);
        due("last run", x.run(0, 1, 0), 1);
    }

    static void aSampleOfNoSignIsNone() {
        HiddenRuns x = new HiddenRuns();
        Edges.typeAll(x, ";");
        due("no sign", x.addSamples(), -100);
        Edges.typeAll(x, "a;;b");
        due("no sign between", x.addSamples(), -102);
        due("samples", x.count(1), 0);
    }

    static void aSampleOfSevenSigns() {
        HiddenRuns x = new HiddenRuns();
        Edges.add(x, "abcabcb");
        due("signs", x.count(3), 7);
        due("seventh", x.sign(0, 6), 1);
        due("total", x.ofSample(0, 0), 128);
        due("runs", x.ofSample(0, 1), 128);
        due("best at the seventh", x.best(0, 6), 0);
        due("doubtful", x.doubtful(0), 127);
        Edges.dueText("last run", Edges.run(x, 0, 127, 7), "1111111");
    }

    static void aSampleOfEightSignsIsNone() {
        HiddenRuns x = new HiddenRuns();
        Edges.typeAll(x, "abcabcba");
        due("eight", x.addSamples(), -107);
        Edges.typeAll(x, "c;abcabcba");
        due("eight behind one", x.addSamples(), -109);
        due("samples", x.count(1), 0);
    }

    // "at places from 0"
    static void theFirstAndTheLastPlace() {
        for (int length = 1; length <= 7; length++) {
            HiddenRuns x = new HiddenRuns();
            Edges.add(x, "ccccccc".substring(0, length));
            for (int place = 0; place < length; place += Math.max(1, length - 1)) {
                due("sign", x.sign(0, place), 2);
                due("best", x.best(0, place), 0);
                due("share", x.share(0, place, 1), 500);
                due("likeliest", x.likeliest(0, place), 0);
                due("run", x.run(0, 0, place), 0);
            }
        }
    }

    static void noPlaceBesideThem() {
        for (int length = 1; length <= 7; length++) {
            HiddenRuns x = new HiddenRuns();
            Edges.add(x, "ccccccc".substring(0, length));
            // the sample behind it has signs where the first one ends
            due("another", x.addSamples(), 1);
            for (int place : Edges.outside(0, length - 1)) {
                due("sign " + place, x.sign(0, place), UNKNOWN);
                due("best " + place, x.best(0, place), UNKNOWN);
                due("share " + place, x.share(0, place, 0), UNKNOWN);
                due("likeliest " + place, x.likeliest(0, place), UNKNOWN);
                due("run " + place, x.run(0, 0, place), UNKNOWN);
            }
        }
    }

    // "A run of a sample has a state for each place."
    static void theFewestAndTheMostRuns() {
        HiddenRuns x = Edges.ofStates(1);
        Edges.add(x, "a;aaaaaaa");
        due("one state, one sign", x.ofSample(0, 1), 1);
        due("one state, seven signs", x.ofSample(1, 1), 1);
        Edges.dueText("the run", Edges.run(x, 1, 0, 7), "0000000");
        due("no other", x.run(1, 1, 0), NONE);
        HiddenRuns y = Edges.ofStates(4);
        Edges.add(y, "a;aaaaaaa");
        due("four states, one sign", y.ofSample(0, 1), 4);
        due("the last of four", y.run(0, 3, 0), 3);
        due("not a fifth", y.run(0, 4, 0), NONE);
        due("four states, seven signs", y.ofSample(1, 1), 16384);
        Edges.dueText("first", Edges.run(y, 1, 0, 7), "0000000");
        Edges.dueText("second", Edges.run(y, 1, 1, 7), "0000001");
        Edges.dueText("last but one", Edges.run(y, 1, 16382, 7), "3333332");
        Edges.dueText("last", Edges.run(y, 1, 16383, 7), "3333333");
        due("not one more", y.run(1, 16384, 6), NONE);
    }

    // "the product of the weight of beginning of its first state"
    static void beginningWeighsOnce() {
        HiddenRuns x = Edges.model("3", "1", "111", "a;aaaaaaa");
        due("one sign", x.ofSample(0, 0), 3);
        due("seven signs", x.ofSample(1, 0), 3);
        HiddenRuns y = Edges.model("10", "11/11", "111/111", "aa");
        due("only of the first state", y.ofSample(0, 0), 2);
        Edges.dueText("first", Edges.run(y, 0, 0, 2), "00");
        Edges.dueText("second", Edges.run(y, 0, 1, 2), "01");
    }

    // "for each place the weight of its state to show the sign there"
    static void eachPlaceShows() {
        HiddenRuns x = Edges.model("1", "1", "235", "a;aaaaaaa;bcccccc;ccccccb");
        due("one sign", x.ofSample(0, 0), 2);
        due("seven signs", x.ofSample(1, 0), 128);
        due("first and the others", x.ofSample(2, 0), 46875);
        due("last and the others", x.ofSample(3, 0), 46875);
    }

    // "for each place but the last one the weight of its state to go on to the next one"
    static void theLastPlaceDoesNotGoOn() {
        HiddenRuns x = Edges.model("1", "2", "111", "a;aa;aaaaaaa");
        due("one sign", x.ofSample(0, 0), 1);
        due("two signs", x.ofSample(1, 0), 2);
        due("seven signs", x.ofSample(2, 0), 64);
        due("to 0", x.setWeight(GO, 0, 0, 0), 2);
        due("one sign still", x.ofSample(0, 0), 1);
        due("two signs no more", x.ofSample(1, 0), 0);
        HiddenRuns y = Edges.model("10", "01/00", "111/111", "aa;aaa");
        due("to where nothing goes on", y.ofSample(0, 0), 1);
        due("but no farther", y.ofSample(1, 0), 0);
    }

    // "The total of a sample is the weight of all its runs together."
    static void theGreatestTotal() {
        HiddenRuns x = Edges.model("6666", "6666/6666/6666/6666", "166/166/166/166", "c;ccccccc;aaaaaaa");
        due("of one sign", x.ofSample(0, 0), 144);
        due("of seven signs", x.ofSample(1, 0), 1283918464548864L);
        due("best of seven signs", x.ofSample(1, 2), 78364164096L);
        due("shown with 1", x.ofSample(2, 0), 16384L * 279936L);
        due("share", x.share(1, 6, 3), 250);
        due("next", x.next(1, 2), 461);
        due("next", x.next(1, 0), 76);
    }

    static void totalsOfZero() {
        HiddenRuns x = Edges.model("00", "11/11", "111/111", "a;abcabca");
        dueNothing("no beginning", x, 0, 1);
        dueNothing("no beginning", x, 1, 7);
        due("without total", x.count(5), 2);
        HiddenRuns y = Edges.model("11", "11/11", "110/110", "c;abcabab;abababc;bababab");
        dueNothing("nothing shows c", y, 0, 1);
        dueNothing("nothing shows c", y, 1, 7);
        dueNothing("nothing shows c", y, 2, 7);
        due("a and b are shown", y.ofSample(3, 0), 128);
        due("without total", y.count(5), 3);
        HiddenRuns z = Edges.model("11", "00/00", "111/111", "a;ab");
        due("one sign has no step", z.ofSample(0, 0), 2);
        dueNothing("no step", z, 1, 2);
        due("without total", z.count(5), 1);
    }

    private static void dueNothing(String what, HiddenRuns x, int sample, int length) {
        due(what + ", total", x.ofSample(sample, 0), 0);
        due(what + ", runs", x.ofSample(sample, 1), 0);
        due(what + ", best weight", x.ofSample(sample, 2), 0);
        due(what + ", doubtful", x.doubtful(sample), 0);
        due(what + ", run", x.run(sample, 0, 0), NONE);
        due(what + ", next", x.next(sample, 0), NONE);
        for (int place = 0; place < length; place += Math.max(1, length - 1)) {
            due(what + ", best", x.best(sample, place), NONE);
            due(what + ", share", x.share(sample, place, 0), NONE);
            due(what + ", likeliest", x.likeliest(sample, place), NONE);
        }
    }

    // "A run counts if its weight is above 0."
    static void aWeightOfOneCounts() {
        HiddenRuns x = Edges.model("1", "1", "111", "a;abcabca");
        due("one sign", x.ofSample(0, 1), 1);
        due("seven signs", x.ofSample(1, 1), 1);
        due("run", x.run(1, 0, 6), 0);
        due("best weight", x.ofSample(1, 2), 1);
    }

    static void aWeightOfZeroDoesNot() {
        HiddenRuns x = Edges.model("61", "66/66", "666/666", "abc");
        due("all", x.ofSample(0, 1), 8);
        x.setWeight(BEGIN, 1, 0, 0);
        due("a beginning less", x.ofSample(0, 1), 4);
        x.setWeight(GO, 0, 1, 0);
        due("a step less", x.ofSample(0, 1), 1);
        Edges.dueText("the one", Edges.run(x, 0, 0, 3), "000");
        due("no other", x.run(0, 1, 0), NONE);
        x.setWeight(SHOW, 0, 2, 0);
        due("the last sign less", x.ofSample(0, 1), 0);
        due("none", x.run(0, 0, 2), NONE);
    }

    // "Runs are ordered by their states, place by place, lower ones first."
    static void theFirstPlaceOrdersFirst() {
        HiddenRuns x = Edges.model("11", "11/11", "111/222", "aa");
        String[] runs = {"00", "01", "10", "11"};
        for (int rank = 0; rank < runs.length; rank++) {
            Edges.dueText("run " + rank, Edges.run(x, 0, rank, 2), runs[rank]);
        }
        x.setWeight(SHOW, 0, 1, 0);
        Edges.add(x, "ab;ba");
        Edges.dueText("b second", Edges.run(x, 1, 0, 2), "01");
        Edges.dueText("b second", Edges.run(x, 1, 1, 2), "11");
        Edges.dueText("b first", Edges.run(x, 2, 0, 2), "10");
        Edges.dueText("b first", Edges.run(x, 2, 1, 2), "11");
    }

    // "The best run is the one with the greatest weight, of several the first one."
    static void theFirstOfSeveralBest() {
        HiddenRuns x = Edges.ofStates(4);
        Edges.add(x, "a;abcabca");
        Edges.dueText("all are best, one sign", Edges.best(x, 0, 1), "0");
        Edges.dueText("all are best, seven signs", Edges.best(x, 1, 7), "0000000");
        HiddenRuns y = Edges.model("11", "01/10", "111/111", "aaaaaaa");
        Edges.dueText("two are best", Edges.best(y, 0, 7), "0101010");
        y.setWeight(BEGIN, 1, 0, 2);
        Edges.dueText("the second is greater", Edges.best(y, 0, 7), "1010101");
        y.setWeight(BEGIN, 0, 0, 2);
        Edges.dueText("two again", Edges.best(y, 0, 7), "0101010");
    }

    static void aTieFarBehind() {
        // 01 and 10 weigh 6, 00 weighs 4 and 11 weighs 2: the first of the two goes 0 first
        HiddenRuns x = Edges.model("21", "23/61", "111/111", "aa");
        Edges.dueText("first", Edges.best(x, 0, 2), "01");
        x.setWeight(GO, 0, 1, 2);
        Edges.dueText("the later is greater", Edges.best(x, 0, 2), "10");
    }

    // "(It counts, or there is none.)"
    static void theBestRunCounts() {
        HiddenRuns x = Edges.model("01", "00/01", "111/001", "cc;cb");
        Edges.dueText("the only one that counts", Edges.best(x, 0, 2), "11");
        due("its weight", x.ofSample(0, 2), 1);
        due("none", x.best(1, 0), NONE);
        due("none", x.best(1, 1), NONE);
        due("no weight", x.ofSample(1, 2), 0);
    }

    // "The weight of a state at a place is that of all runs with this state at this place together."
    static void theWeightAtTheFirstAndTheLastPlace() {
        // 00 (2), 01 (2), 10 (1), 11 (0)
        HiddenRuns x = Edges.model("21", "11/10", "111/111", "aa");
        due("total", x.ofSample(0, 0), 5);
        due("first place", x.share(0, 0, 0), 800);
        due("first place", x.share(0, 0, 1), 200);
        due("last place", x.share(0, 1, 0), 600);
        due("last place", x.share(0, 1, 1), 400);
        due("likeliest first", x.likeliest(0, 0), 0);
        due("likeliest last", x.likeliest(0, 1), 0);
    }

    // "1000 times the weight, divided by the total, rounded down"
    static void sharesAreRoundedDown() {
        HiddenRuns x = Edges.model("12", "11/11", "111/111", "a");
        due("333.3", x.share(0, 0, 0), 333);
        due("666.7", x.share(0, 0, 1), 666);
        HiddenRuns y = Edges.model("61", "60/01", "611/111", "aa");
        due("total", y.ofSample(0, 0), 1297);
        due("999.2", y.share(0, 0, 0), 999);
        due("0.8", y.share(0, 0, 1), 0);
        due("likeliest all the same", y.likeliest(0, 1), 0);
    }

    static void theLeastAndTheGreatestShare() {
        HiddenRuns x = Edges.model("60", "11/11", "111/111", "a;aaaaaaa");
        due("all", x.share(0, 0, 0), 1000);
        due("nothing", x.share(0, 0, 1), 0);
        due("all, seven signs", x.share(1, 0, 0), 1000);
        due("half", x.share(1, 6, 1), 500);
    }

    // "(above 0)"
    static void aShareInATotalOfOne() {
        HiddenRuns x = Edges.model("10", "10/00", "100/000", "a;aaaaaaa;ab");
        due("total", x.ofSample(1, 0), 1);
        due("share", x.share(0, 0, 0), 1000);
        due("share", x.share(1, 6, 0), 1000);
        due("other share", x.share(1, 6, 1), 0);
        due("no total", x.share(2, 0, 0), NONE);
        due("likeliest", x.likeliest(1, 6), 0);
        due("best", x.best(1, 6), 0);
        due("no doubt", x.doubtful(1), 0);
        HiddenRuns y = Edges.model("01", "00/01", "000/100", "a;aaaaaaa");
        due("likeliest", y.likeliest(0, 0), 1);
        due("likeliest", y.likeliest(1, 6), 1);
        due("best", y.best(1, 0), 1);
    }

    // "A place is doubtful if no state there has a share that is at least the bound"
    static void aShareOfTheBoundIsEnough() {
        HiddenRuns x = Edges.model("14", "11/11", "111/111", "a");
        due("share", x.share(0, 0, 1), 800);
        due("at 800", x.doubtful(0), 0);
        due("to 801", x.setBound(801), 800);
        due("at 801", x.doubtful(0), 1);
        due("to 799", x.setBound(799), 801);
        due("at 799", x.doubtful(0), 0);
    }

    static void aShareBelowTheBoundIsNot() {
        // 1296, 324 and 1 of 1621: 799.5
        HiddenRuns x = Edges.model("661", "600/010/001", "611/311/111", "aa");
        due("total", x.ofSample(0, 0), 1351);
        x.setWeight(GO, 1, 1, 6);
        due("total", x.ofSample(0, 0), 1621);
        due("share", x.share(0, 0, 0), 799);
        due("799 at 800", x.doubtful(0), 3);
        x.setBound(799);
        due("799 at 799", x.doubtful(0), 0);
    }

    // "(500 to 1000"
    static void theLeastBound() {
        HiddenRuns x = Edges.model("661", "600/060/000", "611/611/111", "aa;a");
        due("to 500", x.setBound(500), 800);
        due("two halves", x.share(0, 0, 1), 500);
        due("no doubt", x.doubtful(0), 0);
        due("493 at 500", x.doubtful(1), 1);
        x.setWeight(GO, 2, 2, 1);
        due("499.8", x.share(0, 0, 1), 499);
        due("both are doubtful", x.doubtful(0), 3);
    }

    static void theGreatestBound() {
        HiddenRuns x = Edges.model("60", "60/01", "611/111", "aa");
        due("to 1000", x.setBound(1000), 800);
        due("certain", x.doubtful(0), 0);
        x.setWeight(BEGIN, 1, 0, 1);
        due("999", x.share(0, 0, 0), 999);
        due("hardly any doubt is doubt", x.doubtful(0), 3);
        x.setBound(999);
        due("999 at 999", x.doubtful(0), 0);
    }

    // "800 at first)"
    static void theFirstBound() {
        HiddenRuns x = new HiddenRuns();
        due("bound", x.count(2), 800);
        due("it is so already", x.setBound(800), NONE);
    }

    static void doubtAtTheFirstAndTheLastPlace() {
        HiddenRuns x = Edges.model("11", "10/10", "111/111", "aaaaaaa");
        due("first only", x.doubtful(0), 1);
        HiddenRuns y = Edges.model("10", "11/11", "011/101", "bbbbbba;aaaaaaa");
        // only the state 1 shows a, and both show c: the last place alone is open
        y.setWeight(SHOW, 1, 1, 0);
        Edges.add(y, "bbbbbbc");
        due("none", y.doubtful(0), 0);
        due("last only", y.doubtful(2), 64);
        due("all", y.count(4), 1);
    }

    // "If the total is 0, no place is doubtful."
    static void noDoubtWithoutTotal() {
        HiddenRuns x = Edges.model("11", "11/11", "110/110", "a;abc;c");
        due("with a total", x.doubtful(0), 1);
        due("without", x.doubtful(1), 0);
        due("one sign without", x.doubtful(2), 0);
        due("all", x.count(4), 1);
        x.setWeight(SHOW, 0, 2, 1);
        due("total again", x.doubtful(1), 3);
    }

    public static void main(String[] args) throws Exception {
        Edges.runAll(WeightsAndRunsEdgesTest.class);
    }
}
