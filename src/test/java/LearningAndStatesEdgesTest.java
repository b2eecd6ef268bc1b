/**
 * The edges that the document's terms name, each with a test of its own on both sides: learning,
 * odds, states that change. The comment above a test is the sentence that it holds.
 */
public final class LearningAndStatesEdgesTest {
    private static final int UNKNOWN = Edges.UNKNOWN;
    private static final int BAD_VALUE = Edges.BAD_VALUE;
    private static final int FULL = Edges.FULL;
    private static final int NONE = Edges.NONE;
    private static final int BEGIN = Edges.BEGIN;
    private static final int GO = Edges.GO;
    private static final int SHOW = Edges.SHOW;

    private static void due(String what, long got, long want) {
        Edges.due(what, got, want);
    }

    private static void dueLearnt(HiddenRuns x, String begin, String going, String showing) {
        due("learn", x.learn(1), 1);
        Edges.dueWeights("learnt", x, begin, going, showing);
    }

    // ---- learning

    // "(if there is none, nothing becomes other)"
    static void noSampleToLearnFrom() {
        HiddenRuns x = Edges.model("26", "34/50", "123/456", "");
        due("one round", x.learn(1), NONE);
        due("twenty rounds", x.learn(20), NONE);
        Edges.dueWeights("same", x, "26", "34/50", "123/456");
    }

    static void onlyTotalsOfZeroToLearnFrom() {
        HiddenRuns x = Edges.model("26", "00/00", "120/450", "c;ab;aaaaaaa");
        due("one round", x.learn(1), NONE);
        due("twenty rounds", x.learn(20), NONE);
        Edges.dueWeights("same", x, "26", "00/00", "120/450");
    }

    // "from all samples whose total is above 0"
    static void aTotalOfOneIsLearntFrom() {
        HiddenRuns x = Edges.model("1", "1", "111", "a");
        due("total", x.ofSample(0, 0), 1);
        dueLearnt(x, "6", "1", "600");
    }

    static void totalsOfZeroAreLeftOut() {
        HiddenRuns x = Edges.model("2", "4", "320", "ab;c;abc;ccccccc");
        dueLearnt(x, "6", "6", "660");
    }

    static void theFirstAndTheLastSampleAreLearntFrom() {
        HiddenRuns x = Edges.model("1", "1", "111", "a;a;a;a;a;b");
        // 5000 for a, 1000 for b
        dueLearnt(x, "6", "1", "610");
        HiddenRuns y = Edges.model("1", "1", "111", "c;b;b;b;b;b");
        dueLearnt(y, "6", "1", "061");
    }

    // "makes all weights anew at once"
    static void allFamiliesAtOnce() {
        // runs 000 (1), 100 (1), 110 (1), 111 (2): beginnings 200 and 800; goings on 400, 0, 400 and
        // 1 + 2 * 2, which is 1000; a: 600, 1400; b: 600, 400
        HiddenRuns x = Edges.model("11", "10/11", "111/121", "aab");
        dueLearnt(x, "26", "60/26", "660/620");
    }

    // "The count of a beginning is the sum, over these samples, of the share .. at the place 0."
    static void beginningsAtTheFirstPlaceOnly() {
        HiddenRuns x = Edges.model("11", "11/11", "100/011", "a;abbbbbb");
        dueLearnt(x, "60", "06/06", "600/060");
        HiddenRuns y = Edges.model("11", "11/11", "100/011", "bbbbbba");
        // on from 1: 1000 to 0 and 5000 to itself
        dueLearnt(y, "06", "11/16", "600/060");
    }

    // "is the sum, over these samples, of the share": each share is rounded down before
    static void sharesAreRoundedBeforeTheyAreAdded() {
        HiddenRuns x = Edges.model("043", "265/552/605", "236/161/254", "aa;bab");
        dueLearnt(x, "066", "164/632/605", "610/460/640");
        HiddenRuns y = Edges.model("36", "41/33", "566/235", "ab;ac;bbb");
        dueLearnt(y, "65", "61/63", "261/562");
    }

    // "the share of this: .. at all places with this sign, together"
    static void signsAreAddedBeforeTheShare() {
        HiddenRuns x = Edges.model("266", "141/231/323", "634/125/204", "a;aab");
        dueLearnt(x, "426", "361/631/612", "620/660/600");
        HiddenRuns y = Edges.model("15", "66/33", "324/601", "cb;aba");
        dueLearnt(y, "46", "64/60", "262/602");
    }

    // "the weight of all runs, each as often as it goes on so"
    static void goingsAreAddedBeforeTheShare() {
        // 333.3 twice and 166.7 twice are 999 and 333 if each is rounded
        HiddenRuns x = Edges.model("43", "55/35", "326/005", "bcb");
        dueLearnt(x, "60", "61/60", "062/006");
    }

    static void eachRunAsOftenAsItGoesOnSo() {
        HiddenRuns x = Edges.model("11", "11/11", "100/010", "aaaaaab");
        // from 0: 5000 to itself, 1000 to 1; a: 6000, b: 1000
        dueLearnt(x, "60", "61/11", "600/060");
        HiddenRuns y = Edges.model("1", "1", "111", "aaaaaab");
        dueLearnt(y, "6", "6", "610");
    }

    // "The count of going on from a state to another one": itself too, as it has a weight for it
    static void goingOnToItselfIsCounted() {
        HiddenRuns x = Edges.model("10", "21/11", "110/001", "ab;bc");
        dueLearnt(x, "60", "66/11", "360/006");
    }

    // a sample of 1 sign goes on nowhere, one of 2 signs once
    static void oneSignDoesNotGoOn() {
        HiddenRuns x = Edges.model("12", "34/56", "111/111", "a;b;c");
        dueLearnt(x, "36", "34/56", "666/666");
        HiddenRuns y = Edges.model("10", "34/56", "111/111", "ab");
        // 428 and 571 on from 0: 4.99 and 6
        dueLearnt(y, "60", "46/56", "630/060");
    }

    // "each weight becomes (6 * its count + g / 2) / g"
    static void theGreatestBecomesSix() {
        HiddenRuns x = Edges.model("1", "1", "100", "a");
        dueLearnt(x, "6", "1", "600");
        HiddenRuns y = Edges.model("11", "11/11", "111/111", "abc");
        dueLearnt(y, "66", "66/66", "666/666");
    }

    // "both divisions rounded down": halves go up, what is below them goes down
    static void aHalfGoesUp() {
        // 800 and 200: 1.5 and a half are 2
        HiddenRuns x = Edges.model("41", "11/11", "111/111", "a");
        dueLearnt(x, "62", "11/11", "600/600");
        // 799, 199 and 0: 1.49 and a half are 1
        HiddenRuns y = Edges.model("661", "600/060/001", "611/311/111", "aa");
        due("first share", y.share(0, 0, 0), 799);
        due("second share", y.share(0, 0, 1), 199);
        dueLearnt(y, "610", "600/060/001", "600/600/600");
    }

    // the half of an odd g: 889 and 74 give (444 + 444) / 889, which would be 1 with 445
    static void halfOfAnOddCountIsRoundedDown() {
        HiddenRuns x = Edges.model("332", "116/133/001", "306/521/666", "ca;ab");
        dueLearnt(x, "631", "016/026/006", "406/611/660");
        HiddenRuns y = Edges.model("33", "43/16", "056/423", "cb");
        dueLearnt(y, "62", "62/26", "056/064");
    }

    // "A family without a count above 0 stays."
    static void familiesWithoutACountStay() {
        HiddenRuns x = Edges.model("10", "03/25", "100/123", "a");
        // the state 1 is never there, and no state goes on
        dueLearnt(x, "60", "03/25", "600/123");
    }

    static void aFamilyOfZerosStays() {
        HiddenRuns x = Edges.model("10", "00/00", "100/000", "a");
        dueLearnt(x, "60", "00/00", "600/000");
        due("the next round changes nothing", x.learn(20), NONE);
    }

    // a share of 0 is no count, though the weight is above 0; a count of 1 is one
    static void theLeastCount() {
        HiddenRuns x = Edges.model("61", "60/01", "611/111", "aa");
        // of 1297: on from 1 the weight is 1, share 0; showing a it is 2, share 1
        due("total", x.ofSample(0, 0), 1297);
        dueLearnt(x, "60", "60/01", "600/600");
        HiddenRuns y = Edges.model("61", "60/01", "611/111", "aaa");
        // of 46657: 2 and 3 are no share of it
        due("total", y.ofSample(0, 0), 46657);
        dueLearnt(y, "60", "60/01", "600/111");
    }

    // "until a round changes no weight": one that changes the first or the last one alone does
    static void oneWeightAloneChanges() {
        HiddenRuns x = Edges.model("1", "6", "600", "aa");
        due("the first beginning", x.learn(20), 1);
        Edges.dueWeights("learnt", x, "6", "6", "600");
        HiddenRuns y = Edges.model("6", "6", "661", "abc");
        due("the last sign", y.learn(20), 1);
        Edges.dueWeights("learnt", y, "6", "6", "666");
        HiddenRuns z = Edges.model("0006", "1111/1111/1111/0006", "111/111/111/001", "cc");
        due("the last sign of the last state", z.learn(20), 1);
        Edges.dueWeights("learnt", z, "0006", "1111/1111/1111/0006", "111/111/111/006");
        HiddenRuns last = Edges.model("0006", "1111/1111/1111/0001", "111/111/111/006", "cc");
        due("the last going on", last.learn(20), 1);
        Edges.dueWeights("learnt", last, "0006", "1111/1111/1111/0006", "111/111/111/006");
        due("nothing more", last.learn(20), NONE);
    }

    // "Learns round by round, until a round changes no weight."
    static void roundsUntilNothingChanges() {
        String[] model = {"65", "22/24", "314/446", "baca;caba"};
        int needed = roundsOf(model);
        due("rounds", needed, 11);
        due("one less", of(model).learn(needed - 1), needed - 1);
        due("as many", of(model).learn(needed), needed);
        due("one more", of(model).learn(needed + 1), needed);
        due("as many as may be", of(model).learn(20), needed);
        HiddenRuns x = of(model);
        x.learn(20);
        due("nothing more", x.learn(20), NONE);
        due("nothing more", x.learn(1), NONE);
    }

    private static HiddenRuns of(String[] model) {
        return Edges.model(model[0], model[1], model[2], model[3]);
    }

    private static int roundsOf(String[] model) {
        HiddenRuns x = of(model);
        int rounds = 0;
        while (rounds < 40 && x.learn(1) == 1) {
            rounds++;
        }
        return rounds;
    }

    // "rounds: 1 to 20: so many rounds at most"
    static void twentyRoundsAtMost() {
        String[] model = {"413", "453/255/015", "064/645/154", "ab;bcc"};
        due("rounds", roundsOf(model), 22);
        HiddenRuns x = of(model);
        due("twenty", x.learn(20), 20);
        due("the other two", x.learn(20), 2);
        due("no more", x.learn(20), NONE);
        HiddenRuns y = of(model);
        due("nineteen", y.learn(19), 19);
        due("one", y.learn(1), 1);
        due("the other two", y.learn(2), 2);
        due("no more", y.learn(1), NONE);
        Edges.dueText("same weights", Edges.weights(y), Edges.weights(x));
        due("exactly twenty", of(new String[] {"501", "356/163/232", "236/454/643", "cba;aac"}).learn(20), 20);
    }

    static void noRoundsAndTooMany() {
        HiddenRuns x = Edges.model("1", "1", "111", "a");
        for (int rounds : Edges.outside(1, 20)) {
            due("rounds " + rounds, x.learn(rounds), BAD_VALUE);
        }
        Edges.dueWeights("same", x, "1", "1", "111");
        due("twenty", x.learn(20), 1);
        due("nothing for too many", x.learn(21), BAD_VALUE);
    }

    // ---- odds

    // "1000 parts, shared by the weights"
    static void oddsWithoutRests() {
        HiddenRuns x = Edges.model("1144", "1111/6000/0006/0550", "111/040/622/055", "");
        Edges.dueText("tenths", Edges.odds(x, BEGIN, 0), "100 100 400 400");
        Edges.dueText("quarters", Edges.odds(x, GO, 0), "250 250 250 250");
        Edges.dueText("first of all", Edges.odds(x, GO, 1), "1000 0 0 0");
        Edges.dueText("last of all", Edges.odds(x, GO, 2), "0 0 0 1000");
        Edges.dueText("halves", Edges.odds(x, GO, 3), "0 500 500 0");
        Edges.dueText("one of three", Edges.odds(x, SHOW, 1), "0 1000 0");
        Edges.dueText("fifths", Edges.odds(x, SHOW, 2), "600 200 200");
        Edges.dueText("no first", Edges.odds(x, SHOW, 3), "0 500 500");
    }

    // "what is left is given one each to those with the greatest rests"
    static void theGreatestRestsGetWhatIsLeft() {
        HiddenRuns x = Edges.model("2221", "6610/1222/5100/1500", "331/133/661/616", "");
        // of 7: rests 5, 5, 5, 6 and three left
        Edges.dueText("three left", Edges.odds(x, BEGIN, 0), "286 286 285 143");
        Edges.dueText("three left, other order", Edges.odds(x, GO, 1), "143 286 286 285");
        // of 13: rests 7, 7, 12 and two left
        Edges.dueText("two left", Edges.odds(x, GO, 0), "462 461 77 0");
        // of 6: rests 2 and 4, one left
        Edges.dueText("one left, the second", Edges.odds(x, GO, 2), "833 167 0 0");
        Edges.dueText("one left, the first", Edges.odds(x, GO, 3), "167 833 0 0");
        // of 7: rests 4, 4, 6 and two left
        Edges.dueText("last and first", Edges.odds(x, SHOW, 0), "429 428 143");
        Edges.dueText("first and second", Edges.odds(x, SHOW, 1), "143 429 428");
        Edges.dueText("last and first", Edges.odds(x, SHOW, 2), "462 461 77");
        Edges.dueText("middle and first", Edges.odds(x, SHOW, 3), "462 77 461");
    }

    // "of several the lowest ones first"
    static void ofSeveralTheLowestOnes() {
        HiddenRuns x = Edges.model("111", "111/011/666", "111/666/222", "");
        Edges.dueText("one left for three", Edges.odds(x, BEGIN, 0), "334 333 333");
        Edges.dueText("one left for three", Edges.odds(x, GO, 2), "334 333 333");
        Edges.dueText("none left for two", Edges.odds(x, GO, 1), "0 500 500");
        HiddenRuns y = Edges.model("2111", "1112/1211/1121/1111", "411/141/114/111", "");
        Edges.dueText("fifths", Edges.odds(y, BEGIN, 0), "400 200 200 200");
        Edges.dueText("two left for three", Edges.odds(y, SHOW, 0), "667 167 166");
        Edges.dueText("two left for three", Edges.odds(y, SHOW, 1), "167 667 166");
        Edges.dueText("two left for three", Edges.odds(y, SHOW, 2), "167 167 666");
    }

    // "In a family whose weights are all 0 all odds are 0."
    static void noOddsAmongZeros() {
        HiddenRuns x = Edges.model("00", "00/01", "000/001", "");
        Edges.dueText("beginnings", Edges.odds(x, BEGIN, 0), "0 0");
        Edges.dueText("goings on", Edges.odds(x, GO, 0), "0 0");
        Edges.dueText("signs", Edges.odds(x, SHOW, 0), "0 0 0");
        Edges.dueText("one above 0", Edges.odds(x, GO, 1), "0 1000");
        Edges.dueText("one above 0", Edges.odds(x, SHOW, 1), "0 0 1000");
        x.setWeight(BEGIN, 1, 0, 1);
        Edges.dueText("one beginning", Edges.odds(x, BEGIN, 0), "0 1000");
        HiddenRuns y = Edges.model("0000", "0000/1111/1111/1111", "000/111/111/111", "");
        Edges.dueText("four beginnings", Edges.odds(y, BEGIN, 0), "0 0 0 0");
        Edges.dueText("four goings on", Edges.odds(y, GO, 0), "0 0 0 0");
        HiddenRuns z = Edges.model("0", "0", "000", "");
        Edges.dueText("one state", Edges.odds(z, BEGIN, 0) + " " + Edges.odds(z, GO, 0), "0 0");
    }

    static void oddsOfOneState() {
        HiddenRuns x = Edges.model("1", "6", "123", "");
        Edges.dueText("beginning", Edges.odds(x, BEGIN, 0), "1000");
        Edges.dueText("going on", Edges.odds(x, GO, 0), "1000");
    }

    // states that are gone have no part in the odds
    static void oddsOfThoseThatAreThere() {
        HiddenRuns x = Edges.model("1666", "1666/1666/1666/1666", "111/111/111/111", "");
        x.removeState(3);
        Edges.dueText("three", Edges.odds(x, BEGIN, 0), "77 462 461");
        x.removeState(2);
        Edges.dueText("two", Edges.odds(x, GO, 0), "143 857");
        x.removeState(1);
        Edges.dueText("one", Edges.odds(x, GO, 0), "1000");
    }

    // ---- states that change

    // "A state that is added has the weight 1 for everything, and all others go on to it with the weight 1"
    static void addedBehindOneAndBehindThree() {
        HiddenRuns x = Edges.model("6", "0", "053", "");
        due("second", x.addState(), 1);
        Edges.dueWeights("two", x, "61", "01/11", "053/111");
        HiddenRuns y = Edges.model("602", "066/606/660", "000/666/050", "");
        due("fourth", y.addState(), 3);
        Edges.dueWeights("four", y, "6021", "0661/6061/6601/1111", "000/666/050/111");
    }

    // "it gets the next number": where another state was, nothing of it is left
    static void addedWhereAnotherStateWas() {
        HiddenRuns x = Edges.model("6543", "6543/5432/4321/3210", "654/543/432/321", "");
        due("the last one goes", x.removeState(3), 3);
        due("another one", x.addState(), 3);
        Edges.dueWeights("added", x, "6541", "6541/5431/4321/1111", "654/543/432/111");
        due("the first one goes", x.removeState(0), 3);
        due("another one", x.addState(), 3);
        Edges.dueWeights("added again", x, "5411", "4311/3211/1111/1111", "543/432/111/111");
    }

    // "A state that is split gets a twin with the next number, which has its weights"
    static void theOnlyStateIsSplit() {
        HiddenRuns x = Edges.model("5", "3", "062", "");
        due("twin", x.split(0), 1);
        Edges.dueWeights("twins", x, "55", "33/33", "062/062");
    }

    static void theFirstAndTheLastStateAreSplit() {
        HiddenRuns x = Edges.model("123", "012/345/601", "123/456/012", "");
        due("first", x.split(0), 3);
        Edges.dueWeights("first", x, "1231", "0120/3453/6016/0120", "123/456/012/123");
        HiddenRuns y = Edges.model("123", "012/345/601", "123/456/012", "");
        due("last", y.split(2), 3);
        Edges.dueWeights("last", y, "1233", "0122/3455/6011/6011", "123/456/012/012");
        HiddenRuns z = Edges.model("123", "012/345/601", "123/456/012", "");
        due("middle", z.split(1), 3);
        Edges.dueWeights("middle", z, "1232", "0121/3454/6010/3454", "123/456/012/456");
    }

    static void twinsOfZeroAndOfSix() {
        HiddenRuns x = Edges.model("06", "06/60", "060/606", "");
        due("split", x.split(0), 2);
        Edges.dueWeights("three", x, "060", "060/606/060", "060/606/060");
        due("split", x.split(1), 3);
        Edges.dueWeights("four", x, "0606", "0606/6060/0606/6060", "060/606/060/606");
    }

    static void splitWhereAnotherStateWas() {
        HiddenRuns x = Edges.model("6543", "6543/5432/4321/3210", "654/543/432/321", "");
        due("the last one goes", x.removeState(3), 3);
        due("split", x.split(1), 3);
        Edges.dueWeights("split", x, "6545", "6545/5434/4323/5434", "654/543/432/543");
    }

    // "is the sum of both, but at most 6"
    static void joinedSumsUpToSix() {
        HiddenRuns x = Edges.model("12", "10/20", "033/034", "");
        due("join", x.join(0, 1), 1);
        Edges.dueWeights("3; 1 + 0 + 2 + 0; 0, 6 and 7", x, "3", "3", "066");
        HiddenRuns y = Edges.model("33", "22/11", "506/166", "");
        due("join", y.join(0, 1), 1);
        Edges.dueWeights("6; 6; 6, 6 and 12", y, "6", "6", "666");
        HiddenRuns z = Edges.model("34", "22/12", "232/323", "");
        due("join", z.join(0, 1), 1);
        Edges.dueWeights("7; 7; 5, 5 and 5", z, "6", "6", "555");
        HiddenRuns sixes = Edges.model("66", "66/66", "666/666", "");
        due("join", sixes.join(0, 1), 1);
        Edges.dueWeights("12 and 24", sixes, "6", "6", "666");
        HiddenRuns zeros = Edges.model("00", "00/00", "000/000", "");
        due("join", zeros.join(0, 1), 1);
        Edges.dueWeights("0", zeros, "0", "0", "000");
    }

    // "of going on to another state, and of another state's going on to it"
    static void joinedGoingsOnUpToSix() {
        HiddenRuns x = Edges.model("123", "013/203/340", "111/222/000", "");
        // to 2: 3 + 3; from 2: 3 + 4; among both: 0 + 1 + 2 + 0
        due("join", x.join(0, 1), 2);
        Edges.dueWeights("joined", x, "33", "36/60", "333/000");
        HiddenRuns y = Edges.model("123", "013/202/320", "111/222/000", "");
        due("join", y.join(0, 1), 2);
        Edges.dueWeights("joined", y, "33", "35/50", "333/000");
    }

    // "it goes on to itself with the sum of the four weights among both": of each of them
    static void eachOfTheFourAmongBoth() {
        String[] goings = {"10/00", "01/00", "00/10", "00/01"};
        for (String going : goings) {
            HiddenRuns x = Edges.model("11", going, "111/111", "");
            due("join", x.join(1, 0), 1);
            due("one of " + going, x.weight(GO, 0, 0, false), 1);
        }
        for (String going : new String[] {"60/00", "06/00", "00/60", "00/06", "51/00", "05/20"}) {
            HiddenRuns x = Edges.model("11", going, "111/111", "");
            due("join", x.join(0, 1), 1);
            due("six of " + going, x.weight(GO, 0, 0, false), 6);
        }
    }

    // "Two states are joined in the lower one": in whichever order they are named
    static void theFirstAndTheLastStateAreJoined() {
        for (int order = 0; order < 2; order++) {
            HiddenRuns x = Edges.model("1230", "0123/1012/2101/1210", "100/010/001/110", "");
            due("join", order == 0 ? x.join(0, 3) : x.join(3, 0), 3);
            // among both: 0 + 3 + 1 + 0; to 1: 1 + 2, to 2: 2 + 1; from 1: 1 + 2; from 2: 2 + 1
            Edges.dueWeights("joined", x, "123", "433/301/310", "210/010/001");
        }
    }

    static void twoInTheMiddleAndTwoAtTheEndAreJoined() {
        HiddenRuns x = Edges.model("1230", "0123/1012/2101/1210", "100/010/001/110", "");
        due("middle", x.join(2, 1), 3);
        Edges.dueWeights("middle", x, "150", "033/323/130", "100/011/110");
        HiddenRuns y = Edges.model("1230", "0123/1012/2101/1210", "100/010/001/110", "");
        due("end", y.join(2, 3), 3);
        Edges.dueWeights("end", y, "123", "015/103/332", "100/010/111");
    }

    // "When a state is removed, those with higher numbers get numbers that are 1 less."
    static void eachStateOfFourIsRemoved() {
        String[][] due = {
            {"234", "450/012/456", "456/012/345"},
            {"134", "023/612/356", "123/012/345"},
            {"124", "013/340/346", "123/456/345"},
            {"123", "012/345/601", "123/456/012"}};
        for (int gone = 0; gone < 4; gone++) {
            HiddenRuns x = Edges.model("1234", "0123/3450/6012/3456", "123/456/012/345", "");
            due("remove", x.removeState(gone), 3);
            Edges.dueWeights("without " + gone, x, due[gone][0], due[gone][1], due[gone][2]);
            due("no fourth", x.weight(BEGIN, 3, 0, false), UNKNOWN);
        }
    }

    static void removedDownToOne() {
        HiddenRuns x = Edges.model("1234", "0123/3450/6012/3456", "123/456/012/345", "");
        due("first", x.removeState(0), 3);
        due("last", x.removeState(2), 2);
        Edges.dueWeights("two", x, "23", "45/01", "456/012");
        due("first", x.removeState(0), 1);
        Edges.dueWeights("one", x, "3", "1", "012");
        HiddenRuns y = Edges.model("12", "34/56", "123/456", "");
        due("last of two", y.removeState(1), 1);
        Edges.dueWeights("one", y, "1", "3", "123");
    }

    static void fullWithFourAlone() {
        HiddenRuns x = Edges.ofStates(3);
        due("split three", x.split(2), 3);
        due("add to four", x.addState(), FULL);
        due("split of four", x.split(3), FULL);
        due("join", x.join(0, 1), 3);
        due("add to three", x.addState(), 3);
    }

    public static void main(String[] args) throws Exception {
        Edges.runAll(LearningAndStatesEdgesTest.class);
    }
}
