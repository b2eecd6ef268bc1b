import java.math.BigInteger;
import java.util.ArrayList;
import java.util.Arrays;
import java.util.List;

/**
 * Long runs of calls on the class and on a second program, which goes through every run of states
 * as the document's words say and reckons without bounds; every answer must be the same.
 */
public final class EveryRunTest {
    private static final int UNKNOWN = -1;
    private static final int BAD_VALUE = -2;
    private static final int FULL = -3;
    private static final int NOT_POSSIBLE = -4;
    private static final int NONE = -5;
    private static final int CALLS = 500;

    private static final BigInteger THOUSAND = BigInteger.valueOf(1000);

    private static int wrong = 0;
    private static long seed = 1;

    /** A number from 0 below the limit; the same ones every time. */
    private static int pick(int limit) {
        seed = seed * 6364136223846793005L + 1442695040888963407L;
        return (int) Math.floorMod(seed >>> 33, (long) limit);
    }

    /** All that an act may change. */
    private static final class State {
        int[] begin = {1, 1};
        int[][] go = {{1, 1}, {1, 1}};
        int[][] show = {{1, 1, 1}, {1, 1, 1}};
        List<int[]> samples = new ArrayList<>();
        int bound = 800;

        State copy() {
            State made = new State();
            made.begin = begin.clone();
            made.go = deep(go);
            made.show = deep(show);
            made.samples = new ArrayList<>(samples);
            made.bound = bound;
            return made;
        }

        private static int[][] deep(int[][] rows) {
            int[][] made = new int[rows.length][];
            for (int row = 0; row < rows.length; row++) {
                made[row] = rows[row].clone();
            }
            return made;
        }

        int size() {
            return begin.length;
        }

        /** The family and the index in it. */
        int[] family(int kind, int state) {
            return kind == 0 ? begin : kind == 1 ? go[state] : show[state];
        }

        State sized(int size) {
            State made = copy();
            made.begin = Arrays.copyOf(begin, size);
            made.go = new int[size][size];
            made.show = new int[size][3];
            for (int state = 0; state < Math.min(size, size()); state++) {
                made.show[state] = show[state].clone();
                for (int to = 0; to < Math.min(size, size()); to++) {
                    made.go[state][to] = go[state][to];
                }
            }
            return made;
        }

        State without(int gone) {
            State made = sized(size() - 1);
            for (int state = 0; state < size() - 1; state++) {
                int old = state < gone ? state : state + 1;
                made.begin[state] = begin[old];
                made.show[state] = show[old].clone();
                for (int to = 0; to < size() - 1; to++) {
                    made.go[state][to] = go[old][to < gone ? to : to + 1];
                }
            }
            return made;
        }
    }

    /** What is told of one sample, from all its runs. */
    private static final class Told {
        BigInteger total = BigInteger.ZERO;
        BigInteger best = BigInteger.ZERO;
        int[] bestRun = null;
        List<int[]> counting = new ArrayList<>();
        BigInteger[][] at;
        BigInteger[][] steps;
        BigInteger[][] shows;
        BigInteger[] next = {BigInteger.ZERO, BigInteger.ZERO, BigInteger.ZERO};

        Told(State s, int[] sample) {
            at = zeros(sample.length, s.size());
            steps = zeros(s.size(), s.size());
            shows = zeros(s.size(), 3);
            int[] run = new int[sample.length];
            int place;
            do {
                enter(s, sample, run);
                place = sample.length - 1;
                while (place >= 0 && run[place] == s.size() - 1) {
                    run[place] = 0;
                    place--;
                }
                if (place >= 0) {
                    run[place]++;
                }
            } while (place >= 0);
        }

        private static BigInteger[][] zeros(int rows, int columns) {
            BigInteger[][] made = new BigInteger[rows][columns];
            for (BigInteger[] row : made) {
                Arrays.fill(row, BigInteger.ZERO);
            }
            return made;
        }

        private void enter(State s, int[] sample, int[] run) {
            long product = s.begin[run[0]];
            for (int place = 0; place < run.length; place++) {
                product *= s.show[run[place]][sample[place]];
                if (place < run.length - 1) {
                    product *= s.go[run[place]][run[place + 1]];
                }
            }
            if (product == 0) {
                return;
            }
            BigInteger weight = BigInteger.valueOf(product);
            counting.add(run.clone());
            total = total.add(weight);
            if (weight.compareTo(best) > 0) {
                best = weight;
                bestRun = run.clone();
            }
            for (int place = 0; place < run.length; place++) {
                int state = run[place];
                at[place][state] = at[place][state].add(weight);
                shows[state][sample[place]] = shows[state][sample[place]].add(weight);
                if (place < run.length - 1) {
                    steps[state][run[place + 1]] = steps[state][run[place + 1]].add(weight);
                }
            }
            for (int sign = 0; sign < 3; sign++) {
                for (int state = 0; state < s.size(); state++) {
                    long more = s.go[run[run.length - 1]][state] * s.show[state][sign];
                    next[sign] = next[sign].add(weight.multiply(BigInteger.valueOf(more)));
                }
            }
        }

        boolean none() {
            return total.signum() == 0;
        }

        int share(BigInteger weight) {
            return shareOf(weight, total);
        }

        int likeliest(int place) {
            int found = 0;
            for (int state = 1; state < at[place].length; state++) {
                if (at[place][state].compareTo(at[place][found]) > 0) {
                    found = state;
                }
            }
            return found;
        }

        int doubtful(int bound) {
            int set = 0;
            for (int place = 0; place < at.length && !none(); place++) {
                boolean certain = false;
                for (BigInteger weight : at[place]) {
                    certain |= share(weight) >= bound;
                }
                set |= certain ? 0 : 1 << place;
            }
            return set;
        }
    }

    private static int shareOf(BigInteger weight, BigInteger total) {
        return weight.multiply(THOUSAND).divide(total).intValueExact();
    }

    /** The second program. */
    private static final class Plain {
        State s = new State();
        State kept = null;
        List<State> history = new ArrayList<>();
        StringBuilder text = new StringBuilder();
        Told[] told = null;

        Told told(int sample) {
            if (told == null) {
                told = new Told[s.samples.size()];
            }
            if (told[sample] == null) {
                told[sample] = new Told(s, s.samples.get(sample));
            }
            return told[sample];
        }

        void act(State made) {
            history.add(s);
            if (history.size() > 4) {
                history.remove(0);
            }
            become(made);
        }

        void become(State made) {
            s = made;
            told = null;
        }

        boolean isState(int state) {
            return state >= 0 && state < s.size();
        }

        boolean isSample(int sample) {
            return sample >= 0 && sample < s.samples.size();
        }

        boolean isPlace(int sample, int place) {
            return isSample(sample) && place >= 0 && place < s.samples.get(sample).length;
        }

        int wrongWeight(int kind, int state, int to) {
            if (kind < 0 || kind > 2) {
                return BAD_VALUE;
            }
            int limit = kind == 0 ? 1 : kind == 1 ? s.size() : 3;
            return isState(state) && to >= 0 && to < limit ? 0 : UNKNOWN;
        }

        int setWeight(int kind, int state, int to, int weight) {
            int error = wrongWeight(kind, state, to);
            if (error != 0) {
                return error;
            }
            if (weight < 0 || weight > 6) {
                return BAD_VALUE;
            }
            State made = s.copy();
            int index = kind == 0 ? state : to;
            int previous = made.family(kind, state)[index];
            if (previous == weight) {
                return NONE;
            }
            made.family(kind, state)[index] = weight;
            act(made);
            return previous;
        }

        int addState() {
            if (s.size() == 4) {
                return FULL;
            }
            int added = s.size();
            State made = s.sized(added + 1);
            made.begin[added] = 1;
            Arrays.fill(made.show[added], 1);
            for (int state = 0; state <= added; state++) {
                made.go[added][state] = 1;
                made.go[state][added] = 1;
            }
            act(made);
            return added;
        }

        int split(int state) {
            if (!isState(state)) {
                return UNKNOWN;
            }
            if (s.size() == 4) {
                return FULL;
            }
            int twin = s.size();
            State made = s.sized(twin + 1);
            made.begin[twin] = s.begin[state];
            made.show[twin] = s.show[state].clone();
            for (int other = 0; other < twin; other++) {
                if (other != state) {
                    made.go[twin][other] = s.go[state][other];
                    made.go[other][twin] = s.go[other][state];
                }
            }
            made.go[twin][twin] = s.go[state][state];
            made.go[twin][state] = s.go[state][state];
            made.go[state][twin] = s.go[state][state];
            act(made);
            return twin;
        }

        int join(int one, int other) {
            if (!isState(one) || !isState(other)) {
                return UNKNOWN;
            }
            if (one == other) {
                return BAD_VALUE;
            }
            int low = Math.min(one, other);
            int high = Math.max(one, other);
            State made = s.copy();
            made.begin[low] = Math.min(6, s.begin[low] + s.begin[high]);
            for (int sign = 0; sign < 3; sign++) {
                made.show[low][sign] = Math.min(6, s.show[low][sign] + s.show[high][sign]);
            }
            for (int third = 0; third < s.size(); third++) {
                if (third != low && third != high) {
                    made.go[low][third] = Math.min(6, s.go[low][third] + s.go[high][third]);
                    made.go[third][low] = Math.min(6, s.go[third][low] + s.go[third][high]);
                }
            }
            made.go[low][low] = Math.min(6, s.go[low][low] + s.go[low][high] + s.go[high][low] + s.go[high][high]);
            act(made.without(high));
            return s.size();
        }

        int removeState(int state) {
            if (!isState(state)) {
                return UNKNOWN;
            }
            if (s.size() == 1) {
                return NOT_POSSIBLE;
            }
            act(s.without(state));
            return s.size();
        }

        int setBound(int bound) {
            if (bound < 500 || bound > 1000) {
                return BAD_VALUE;
            }
            if (bound == s.bound) {
                return NONE;
            }
            int previous = s.bound;
            State made = s.copy();
            made.bound = bound;
            act(made);
            return previous;
        }

        int fault() {
            int index = 0;
            while (true) {
                int letters = 0;
                while (index < text.length() && letters < 7 && "abc".indexOf(text.charAt(index)) >= 0) {
                    index++;
                    letters++;
                }
                if (letters == 0) {
                    return index;
                }
                if (index == text.length()) {
                    return -1;
                }
                if (text.charAt(index) != ';') {
                    return index;
                }
                index++;
            }
        }

        int addSamples() {
            int fault = fault();
            if (fault >= 0) {
                return -100 - fault;
            }
            String[] parts = text.toString().split(";");
            if (s.samples.size() + parts.length > 6) {
                return FULL;
            }
            State made = s.copy();
            for (String part : parts) {
                int[] sample = new int[part.length()];
                for (int place = 0; place < sample.length; place++) {
                    sample[place] = "abc".indexOf(part.charAt(place));
                }
                made.samples.add(sample);
            }
            act(made);
            return parts.length;
        }

        int removeSample(int sample) {
            if (!isSample(sample)) {
                return UNKNOWN;
            }
            State made = s.copy();
            made.samples.remove(sample);
            act(made);
            return made.samples.size();
        }

        int learn(int rounds) {
            if (rounds < 1 || rounds > 20) {
                return BAD_VALUE;
            }
            State before = s;
            int changing = 0;
            for (int round = 0; round < rounds; round++) {
                State made = learnt();
                if (Arrays.equals(made.begin, s.begin) && Arrays.deepEquals(made.go, s.go)
                    && Arrays.deepEquals(made.show, s.show)) {
                    break;
                }
                become(made);
                changing++;
            }
            if (changing == 0) {
                return NONE;
            }
            State last = s;
            become(before);
            act(last);
            return changing;
        }

        State learnt() {
            int[] begin = new int[s.size()];
            int[][] go = new int[s.size()][s.size()];
            int[][] show = new int[s.size()][3];
            for (int sample = 0; sample < s.samples.size(); sample++) {
                Told t = told(sample);
                for (int state = 0; state < s.size() && !t.none(); state++) {
                    begin[state] += t.share(t.at[0][state]);
                    for (int to = 0; to < s.size(); to++) {
                        go[state][to] += t.share(t.steps[state][to]);
                    }
                    for (int sign = 0; sign < 3; sign++) {
                        show[state][sign] += t.share(t.shows[state][sign]);
                    }
                }
            }
            State made = s.copy();
            made.begin = anew(begin, s.begin);
            for (int state = 0; state < s.size(); state++) {
                made.go[state] = anew(go[state], s.go[state]);
                made.show[state] = anew(show[state], s.show[state]);
            }
            return made;
        }

        static int[] anew(int[] counts, int[] old) {
            int greatest = Arrays.stream(counts).max().getAsInt();
            return greatest == 0 ? old.clone()
                : Arrays.stream(counts).map(count -> (6 * count + greatest / 2) / greatest).toArray();
        }

        int type(char character) {
            if (text.length() == 60) {
                return FULL;
            }
            text.append(character);
            return text.length();
        }

        int clearText() {
            int length = text.length();
            text.setLength(0);
            return length;
        }

        int undo() {
            if (history.isEmpty()) {
                return NONE;
            }
            become(history.remove(history.size() - 1));
            return history.size();
        }

        int keep() {
            kept = s;
            return s.samples.size();
        }

        int restore() {
            if (kept == null) {
                return NONE;
            }
            act(kept);
            return s.samples.size();
        }

        int weight(int kind, int state, int to, boolean odds) {
            int error = wrongWeight(kind, state, to);
            if (error != 0) {
                return error;
            }
            int[] family = s.family(kind, state);
            int index = kind == 0 ? state : to;
            return odds ? odds(family)[index] : family[index];
        }

        static int[] odds(int[] family) {
            int sum = Arrays.stream(family).sum();
            int[] odds = new int[family.length];
            if (sum == 0) {
                return odds;
            }
            int[] rests = new int[family.length];
            int left = 1000;
            for (int index = 0; index < family.length; index++) {
                odds[index] = 1000 * family[index] / sum;
                rests[index] = 1000 * family[index] % sum;
                left -= odds[index];
            }
            for (; left > 0; left--) {
                int greatest = 0;
                for (int index = 1; index < family.length; index++) {
                    if (rests[index] > rests[greatest]) {
                        greatest = index;
                    }
                }
                odds[greatest]++;
                rests[greatest] = -1;
            }
            return odds;
        }

        int sign(int sample, int place) {
            return isPlace(sample, place) ? s.samples.get(sample)[place] : UNKNOWN;
        }

        long ofSample(int sample, int what) {
            if (!isSample(sample)) {
                return UNKNOWN;
            }
            Told t = told(sample);
            return what == 0 ? t.total.longValueExact() : what == 1 ? t.counting.size()
                : what == 2 ? t.best.longValueExact() : BAD_VALUE;
        }

        int best(int sample, int place) {
            if (!isPlace(sample, place)) {
                return UNKNOWN;
            }
            int[] run = told(sample).bestRun;
            return run == null ? NONE : run[place];
        }

        int share(int sample, int place, int state) {
            if (!isPlace(sample, place) || !isState(state)) {
                return UNKNOWN;
            }
            Told t = told(sample);
            return t.none() ? NONE : t.share(t.at[place][state]);
        }

        int likeliest(int sample, int place) {
            if (!isPlace(sample, place)) {
                return UNKNOWN;
            }
            return told(sample).none() ? NONE : told(sample).likeliest(place);
        }

        int doubtful(int sample) {
            return isSample(sample) ? told(sample).doubtful(s.bound) : UNKNOWN;
        }

        int run(int sample, int rank, int place) {
            if (!isPlace(sample, place)) {
                return UNKNOWN;
            }
            if (rank < 0) {
                return BAD_VALUE;
            }
            List<int[]> runs = told(sample).counting;
            return rank < runs.size() ? runs.get(rank)[place] : NONE;
        }

        int next(int sample, int sign) {
            if (!isSample(sample) || sign < 0 || sign > 2) {
                return UNKNOWN;
            }
            BigInteger[] weights = told(sample).next;
            BigInteger all = weights[0].add(weights[1]).add(weights[2]);
            return all.signum() == 0 ? NONE : shareOf(weights[sign], all);
        }

        int count(int what) {
            int[] counts = {s.size(), s.samples.size(), s.bound, 0, 0, 0, 0, history.size(), text.length()};
            if (what < 0 || what >= counts.length) {
                return BAD_VALUE;
            }
            for (int sample = 0; what >= 3 && what <= 6 && sample < s.samples.size(); sample++) {
                Told t = told(sample);
                counts[3] += t.at.length;
                counts[4] += Integer.bitCount(t.doubtful(s.bound));
                counts[5] += t.none() ? 1 : 0;
                for (int place = 0; place < t.at.length && !t.none(); place++) {
                    counts[6] += t.bestRun[place] == t.likeliest(place) ? 0 : 1;
                }
            }
            return counts[what];
        }
    }

    private static int run = 0;
    private static int call = 0;

    private static void due(String what, long got, long want, int... arguments) {
        call++;
        if (got != want) {
            wrong++;
            System.out.println("run " + run + ", call " + call + ": " + what + Arrays.toString(arguments)
                + " answered " + got + ", due is " + want);
        }
    }

    /** Mostly one of the numbers from 0 below the limit, now and then another one. */
    private static int near(int limit) {
        int any = pick(40);
        return any == 0 ? -1 : any == 1 ? limit : any == 2 ? Integer.MAX_VALUE : any == 3 ? Integer.MIN_VALUE
            : pick(Math.max(1, limit));
    }

    /** How the weights of a run of calls tend: all, often 0, often high, often low. */
    private static int someWeight() {
        switch (run % 4) {
            case 0:
                return near(7);
            case 1:
                return pick(2) == 0 ? 0 : near(7);
            case 2:
                return 6 - pick(2);
            default:
                return near(3);
        }
    }

    private static void typeSome(HiddenRuns x, Plain y) {
        due("clearText", x.clearText(), y.clearText());
        int samples = 1 + pick(4);
        for (int sample = 0; sample < samples; sample++) {
            if (sample > 0) {
                typeOne(x, y, ';');
            }
            int letters = pick(12) == 0 ? pick(9) : pick(5) == 0 ? 7 : 1 + pick(4);
            for (int letter = 0; letter < letters; letter++) {
                typeOne(x, y, pick(80) == 0 ? (char) pick(600) : (char) ('a' + pick(3)));
            }
        }
        due("addSamples", x.addSamples(), y.addSamples());
    }

    private static void typeOne(HiddenRuns x, Plain y, char character) {
        due("type", x.type(character), y.type(character), character);
    }

    private static void actOnWeights(HiddenRuns x, Plain y) {
        int kind = pick(30) == 0 ? near(3) : pick(3);
        int state = near(y.s.size());
        int to = kind == 0 ? pick(20) / 19 : near(kind == 1 ? y.s.size() : 3);
        int weight = someWeight();
        due("setWeight", x.setWeight(kind, state, to, weight), y.setWeight(kind, state, to, weight),
            kind, state, to, weight);
    }

    private static void actOnStates(HiddenRuns x, Plain y) {
        int one = near(y.s.size());
        int other = near(y.s.size());
        switch (pick(6)) {
            case 0:
                due("addState", x.addState(), y.addState());
                break;
            case 1:
            case 2:
                due("split", x.split(one), y.split(one), one);
                break;
            case 3:
                due("join", x.join(one, other), y.join(one, other), one, other);
                break;
            case 4:
                due("removeState", x.removeState(one), y.removeState(one), one);
                break;
            default:
                int bound = pick(8) == 0 ? 498 + pick(4) : pick(8) == 0 ? 998 + pick(4) : 500 + pick(501);
                due("setBound", x.setBound(bound), y.setBound(bound), bound);
                break;
        }
    }

    private static void actOnRest(HiddenRuns x, Plain y) {
        switch (pick(8)) {
            case 0:
            case 1:
                int rounds = pick(3) == 0 ? near(21) : 1;
                due("learn", x.learn(rounds), y.learn(rounds), rounds);
                break;
            case 2:
                int sample = near(y.s.samples.size());
                due("removeSample", x.removeSample(sample), y.removeSample(sample), sample);
                break;
            case 3:
            case 4:
                due("undo", x.undo(), y.undo());
                break;
            case 5:
                due("keep", x.keep(), y.keep());
                break;
            case 6:
                due("restore", x.restore(), y.restore());
                break;
            default:
                typeSome(x, y);
                break;
        }
    }

    private static void askOfWeights(HiddenRuns x, Plain y) {
        for (int times = 0; times < 3; times++) {
            int kind = near(3);
            int state = near(y.s.size());
            int to = kind == 0 ? pick(20) / 19 : near(kind == 1 ? y.s.size() : 3);
            boolean odds = pick(2) == 0;
            due("weight" + (odds ? " odds" : ""), x.weight(kind, state, to, odds), y.weight(kind, state, to, odds),
                kind, state, to);
        }
        int what = near(9);
        due("count", x.count(what), y.count(what), what);
        what = 4 + pick(3);
        due("count", x.count(what), y.count(what), what);
    }

    private static void askOfSample(HiddenRuns x, Plain y) {
        int sample = near(y.s.samples.size());
        int length = y.isSample(sample) ? y.s.samples.get(sample).length : 1;
        int place = near(length);
        int what = near(3);
        int state = near(y.s.size());
        int sign = near(3);
        int rank = y.isSample(sample) ? near(y.told(sample).counting.size() + 1) : near(4);
        due("sign", x.sign(sample, place), y.sign(sample, place), sample, place);
        due("ofSample", x.ofSample(sample, what), y.ofSample(sample, what), sample, what);
        due("best", x.best(sample, place), y.best(sample, place), sample, place);
        due("share", x.share(sample, place, state), y.share(sample, place, state), sample, place, state);
        due("likeliest", x.likeliest(sample, place), y.likeliest(sample, place), sample, place);
        due("doubtful", x.doubtful(sample), y.doubtful(sample), sample);
        due("run", x.run(sample, rank, place), y.run(sample, rank, place), sample, rank, place);
        due("next", x.next(sample, sign), y.next(sample, sign), sample, sign);
    }

    private static void runOfCalls() {
        HiddenRuns x = new HiddenRuns();
        Plain y = new Plain();
        call = 0;
        typeSome(x, y);
        while (call < CALLS - 70) {
            int acts = 1 + pick(5);
            for (int act = 0; act < acts && call < CALLS - 70; act++) {
                int kind = pick(10);
                if (kind < 6) {
                    actOnWeights(x, y);
                } else if (kind < 8) {
                    actOnStates(x, y);
                } else {
                    actOnRest(x, y);
                }
            }
            askOfWeights(x, y);
            askOfSample(x, y);
        }
    }

    /** All weights as high as they may be, but for a few. */
    private static void runOfGreatNumbers() {
        HiddenRuns x = new HiddenRuns();
        Plain y = new Plain();
        call = 0;
        due("removeState", x.removeState(1), y.removeState(1));
        for (int sign = 0; sign < 3; sign++) {
            due("setWeight", x.setWeight(2, 0, sign, 6), y.setWeight(2, 0, sign, 6));
        }
        due("setWeight", x.setWeight(0, 0, 0, 6), y.setWeight(0, 0, 0, 6));
        due("setWeight", x.setWeight(1, 0, 0, 6), y.setWeight(1, 0, 0, 6));
        for (int times = 0; times < 3; times++) {
            due("split", x.split(0), y.split(0));
        }
        for (int index = 0; index < 15; index++) {
            typeOne(x, y, index == 7 ? ';' : (char) ('a' + (index < 7 ? 0 : pick(3))));
        }
        due("addSamples", x.addSamples(), y.addSamples());
        while (call < CALLS - 70) {
            int kind = pick(3);
            int state = pick(4);
            int to = kind == 0 ? 0 : pick(3);
            int weight = 6 - pick(4);
            due("setWeight", x.setWeight(kind, state, to, weight), y.setWeight(kind, state, to, weight));
            askOfWeights(x, y);
            askOfSample(x, y);
            if (pick(4) == 0) {
                due("learn", x.learn(1), y.learn(1));
                due("weight", x.weight(1, state, to, false), y.weight(1, state, to, false));
                due("undo", x.undo(), y.undo());
            }
        }
    }

    public static void main(String[] args) {
        int runs = args.length > 0 ? Integer.parseInt(args[0]) : 150;
        seed = args.length > 1 ? Long.parseLong(args[1]) : 1;
        for (run = 0; run < runs && wrong < 20; run++) {
            runOfCalls();
            if (run % 8 == 0) {
                runOfGreatNumbers();
            }
        }
        System.out.println(wrong == 0 ? "all answers are as due" : wrong + " answers are not as due");
        if (wrong != 0) {
            System.exit(1);
        }
    }
}
