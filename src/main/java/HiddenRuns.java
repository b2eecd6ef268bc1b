import java.util.Arrays;

/** States behind rows of signs; ../shared/DOC.md has the promises that this class keeps. */
public final class HiddenRuns {
    public static final int UNKNOWN = -1;
    public static final int BAD_VALUE = -2;
    public static final int FULL = -3;
    public static final int NOT_POSSIBLE = -4;
    public static final int NONE = -5;

    private static final int MOST_STATES = 4;
    private static final int SIGNS = 3;
    private static final int MOST_WEIGHT = 6;
    private static final int MOST_SAMPLES = 6;
    private static final int MOST_PLACES = 7;
    private static final int MOST_CHARACTERS = 60;
    private static final int MOST_PAST = 4;
    private static final int MOST_ROUNDS = 20;
    private static final int LEAST_BOUND = 500;
    private static final int FIRST_BOUND = 800;
    private static final int MOST_BOUND = 1000;
    private static final int PARTS = 1000;
    private static final int FAULT_BASE = -100;

    private static final int BEGINNING = 0;
    private static final int GOING_ON = 1;
    private static final int SHOWING = 2;

    private final Model now;
    private final Model snapshot;
    private boolean hasSnapshot;
    private final History history;
    private final SampleText text;
    private final Sums sums;
    private final BestRun bestRun;
    private final RunOrder runOrder;
    private final Learner learner;

    public HiddenRuns() {
        Model model = new Model();
        Sums together = new Sums(model);
        now = model;
        snapshot = new Model();
        history = new History();
        text = new SampleText();
        sums = together;
        bestRun = new BestRun(model);
        runOrder = new RunOrder(model);
        learner = new Learner(model, together);
    }

    // ---- weights, states

    public int setWeight(int kind, int state, int to, int weight) {
        if (!isKind(kind)) {
            return BAD_VALUE;
        }
        if (!now.hasWeight(kind, state, to)) {
            return UNKNOWN;
        }
        if (weight < 0 || weight > MOST_WEIGHT) {
            return BAD_VALUE;
        }
        int cell = Model.cellOf(kind, state, to);
        int previous = now.weights[cell];
        if (previous == weight) {
            return NONE;
        }
        history.record(now);
        now.weights[cell] = weight;
        return previous;
    }

    public int addState() {
        if (now.states == MOST_STATES) {
            return FULL;
        }
        history.record(now);
        now.appendState();
        return now.states - 1;
    }

    public int split(int state) {
        if (!now.hasState(state)) {
            return UNKNOWN;
        }
        if (now.states == MOST_STATES) {
            return FULL;
        }
        history.record(now);
        now.appendTwin(state);
        return now.states - 1;
    }

    public int join(int one, int other) {
        if (!now.hasState(one) || !now.hasState(other)) {
            return UNKNOWN;
        }
        if (one == other) {
            return BAD_VALUE;
        }
        history.record(now);
        now.merge(Math.min(one, other), Math.max(one, other));
        return now.states;
    }

    public int removeState(int state) {
        if (!now.hasState(state)) {
            return UNKNOWN;
        }
        if (now.states == 1) {
            return NOT_POSSIBLE;
        }
        history.record(now);
        now.dropState(state);
        return now.states;
    }

    public int setBound(int bound) {
        if (bound < LEAST_BOUND || bound > MOST_BOUND) {
            return BAD_VALUE;
        }
        int previous = now.bound;
        if (previous == bound) {
            return NONE;
        }
        history.record(now);
        now.bound = bound;
        return previous;
    }

    // ---- samples, learning

    public int addSamples() {
        int fault = text.fault();
        if (fault != SampleText.NO_FAULT) {
            return FAULT_BASE - fault;
        }
        int added = text.samples();
        if (now.samples + added > MOST_SAMPLES) {
            return FULL;
        }
        history.record(now);
        text.appendTo(now);
        return added;
    }

    public int removeSample(int sample) {
        if (!now.hasSample(sample)) {
            return UNKNOWN;
        }
        history.record(now);
        now.dropSample(sample);
        return now.samples;
    }

    public int learn(int rounds) {
        if (rounds < 1 || rounds > MOST_ROUNDS) {
            return BAD_VALUE;
        }
        int changing = 0;
        for (int round = 0; round < rounds && learner.prepareRound(); round++) {
            // the whole call is one act, and none if the first round changes nothing
            if (changing == 0) {
                history.record(now);
            }
            learner.finishRound();
            changing++;
        }
        return changing > 0 ? changing : NONE;
    }

    // ---- texts

    public int type(char character) {
        if (text.length == MOST_CHARACTERS) {
            return FULL;
        }
        text.append(character);
        return text.length;
    }

    public int clearText() {
        int previous = text.length;
        text.empty();
        return previous;
    }

    // ---- history

    public int undo() {
        if (history.size == 0) {
            return NONE;
        }
        history.takeLatest(now);
        return history.size;
    }

    public int keep() {
        snapshot.copyFrom(now);
        hasSnapshot = true;
        return now.samples;
    }

    public int restore() {
        if (!hasSnapshot) {
            return NONE;
        }
        history.record(now);
        now.copyFrom(snapshot);
        return now.samples;
    }

    // ---- what is told

    public int weight(int kind, int state, int to, boolean odds) {
        if (!isKind(kind)) {
            return BAD_VALUE;
        }
        if (!now.hasWeight(kind, state, to)) {
            return UNKNOWN;
        }
        return odds ? now.oddsOf(kind, state, to) : now.weights[Model.cellOf(kind, state, to)];
    }

    public int sign(int sample, int place) {
        return now.hasPlace(sample, place) ? now.signAt(sample, place) : UNKNOWN;
    }

    public long ofSample(int sample, int what) {
        if (!now.hasSample(sample)) {
            return UNKNOWN;
        }
        switch (what) {
            case 0:
                sums.read(sample);
                return sums.total;
            case 1:
                runOrder.read(sample);
                return runOrder.size;
            case 2:
                bestRun.read(sample);
                return bestRun.weight;
            default:
                return BAD_VALUE;
        }
    }

    public int best(int sample, int place) {
        if (!now.hasPlace(sample, place)) {
            return UNKNOWN;
        }
        bestRun.read(sample);
        return bestRun.weight > 0 ? bestRun.path[place] : NONE;
    }

    public int share(int sample, int place, int state) {
        if (!now.hasPlace(sample, place) || !now.hasState(state)) {
            return UNKNOWN;
        }
        sums.read(sample);
        return sums.total > 0 ? shareOf(sums.at(place, state), sums.total) : NONE;
    }

    public int likeliest(int sample, int place) {
        if (!now.hasPlace(sample, place)) {
            return UNKNOWN;
        }
        sums.read(sample);
        return sums.total > 0 ? sums.likeliestAt(place) : NONE;
    }

    public int doubtful(int sample) {
        if (!now.hasSample(sample)) {
            return UNKNOWN;
        }
        sums.read(sample);
        return sums.doubtfulPlaces();
    }

    public int run(int sample, int rank, int place) {
        if (!now.hasPlace(sample, place)) {
            return UNKNOWN;
        }
        if (rank < 0) {
            return BAD_VALUE;
        }
        runOrder.read(sample);
        return rank < runOrder.size ? runOrder.stateAt(rank, place) : NONE;
    }

    public int next(int sample, int sign) {
        if (!now.hasSample(sample) || sign < 0 || sign >= SIGNS) {
            return UNKNOWN;
        }
        sums.read(sample);
        long all = 0;
        for (int each = 0; each < SIGNS; each++) {
            all += sums.behindLast(each);
        }
        return all > 0 ? shareOf(sums.behindLast(sign), all) : NONE;
    }

    public int count(int what) {
        switch (what) {
            case 0:
                return now.states;
            case 1:
                return now.samples;
            case 2:
                return now.bound;
            case 3:
                return now.allSigns();
            case 4:
                return allDoubtful();
            case 5:
                return samplesWithoutTotal();
            case 6:
                return placesOffBest();
            case 7:
                return history.size;
            case 8:
                return text.length;
            default:
                return BAD_VALUE;
        }
    }

    private static boolean isKind(int kind) {
        return kind >= BEGINNING && kind <= SHOWING;
    }

    /**
     * Divides digit by digit, as 1000 times the weights behind a sample would leave the range of
     * long: they reach some 5.6e17.
     */
    private static int shareOf(long weight, long total) {
        if (total <= 0) {
            return 0;
        }
        long quotient = weight / total;
        long rest = weight % total;
        for (int scale = 1; scale < PARTS; scale *= 10) {
            rest *= 10;
            quotient = quotient * 10 + rest / total;
            rest %= total;
        }
        return (int) quotient;
    }

    private int allDoubtful() {
        int places = 0;
        for (int sample = 0; sample < now.samples; sample++) {
            sums.read(sample);
            places += Integer.bitCount(sums.doubtfulPlaces());
        }
        return places;
    }

    private int samplesWithoutTotal() {
        int found = 0;
        for (int sample = 0; sample < now.samples; sample++) {
            sums.read(sample);
            if (sums.total == 0) {
                found++;
            }
        }
        return found;
    }

    private int placesOffBest() {
        int places = 0;
        for (int sample = 0; sample < now.samples; sample++) {
            bestRun.read(sample);
            if (bestRun.weight > 0) {
                sums.read(sample);
                places += placesOffPath(now.lengths[sample]);
            }
        }
        return places;
    }

    private int placesOffPath(int length) {
        int places = 0;
        for (int place = 0; place < length; place++) {
            if (bestRun.path[place] != sums.likeliestAt(place)) {
                places++;
            }
        }
        return places;
    }

    /** All that an act may change: weights, samples and the bound. */
    private static final class Model {
        // a state's weights stand in one row: of beginning, of going on, of showing
        private static final int FIRST_GOING = 1;
        private static final int FIRST_SHOWING = FIRST_GOING + MOST_STATES;
        private static final int ROW = FIRST_SHOWING + SIGNS;
        private static final int CELLS = MOST_STATES * ROW;

        private final int[] weights;
        private int states;
        private int bound;
        private final int[] lengths;
        private final int[] signs;
        private int samples;

        Model() {
            weights = new int[CELLS];
            for (int cell = 0; cell < CELLS; cell++) {
                weights[cell] = 1;
            }
            states = 2;
            bound = FIRST_BOUND;
            lengths = new int[MOST_SAMPLES];
            signs = new int[MOST_SAMPLES * MOST_PLACES];
        }

        void copyFrom(Model other) {
            System.arraycopy(other.weights, 0, weights, 0, CELLS);
            states = other.states;
            bound = other.bound;
            System.arraycopy(other.lengths, 0, lengths, 0, MOST_SAMPLES);
            System.arraycopy(other.signs, 0, signs, 0, MOST_SAMPLES * MOST_PLACES);
            samples = other.samples;
        }

        boolean hasState(int state) {
            return state >= 0 && state < states;
        }

        boolean hasSample(int sample) {
            return sample >= 0 && sample < samples;
        }

        boolean hasPlace(int sample, int place) {
            return hasSample(sample) && place >= 0 && place < lengths[sample];
        }

        boolean hasWeight(int kind, int state, int to) {
            int targets = kind == BEGINNING ? 1 : familySize(kind);
            return hasState(state) && to >= 0 && to < targets;
        }

        static int cellOf(int kind, int state, int to) {
            int first = kind == BEGINNING ? 0 : kind == GOING_ON ? FIRST_GOING : FIRST_SHOWING;
            return state * ROW + first + to;
        }

        int familySize(int kind) {
            return kind == SHOWING ? SIGNS : states;
        }

        /** The cell of a member of a family; the beginnings of all states are one family. */
        static int memberCell(int kind, int state, int member) {
            return kind == BEGINNING ? cellOf(kind, member, 0) : cellOf(kind, state, member);
        }

        int begin(int state) {
            return weights[state * ROW];
        }

        int go(int state, int to) {
            return weights[state * ROW + FIRST_GOING + to];
        }

        int show(int state, int sign) {
            return weights[state * ROW + FIRST_SHOWING + sign];
        }

        int signAt(int sample, int place) {
            return signs[sample * MOST_PLACES + place];
        }

        int showAt(int state, int sample, int place) {
            return show(state, signAt(sample, place));
        }

        int allSigns() {
            int all = 0;
            for (int sample = 0; sample < samples; sample++) {
                all += lengths[sample];
            }
            return all;
        }

        int oddsOf(int kind, int state, int to) {
            int size = familySize(kind);
            int sum = 0;
            for (int member = 0; member < size; member++) {
                sum += weights[memberCell(kind, state, member)];
            }
            if (sum <= 0) {
                return 0;
            }
            int self = kind == BEGINNING ? state : to;
            int own = PARTS * weights[memberCell(kind, state, self)];
            int left = PARTS;
            int ahead = 0;
            for (int member = 0; member < size; member++) {
                int parts = PARTS * weights[memberCell(kind, state, member)];
                left -= parts / sum;
                if (parts % sum > own % sum || (parts % sum == own % sum && member < self)) {
                    ahead++;
                }
            }
            return own / sum + (ahead < left ? 1 : 0);
        }

        void appendState() {
            int added = states;
            states++;
            for (int cell = added * ROW; cell < (added + 1) * ROW; cell++) {
                weights[cell] = 1;
            }
            for (int from = 0; from < added; from++) {
                weights[cellOf(GOING_ON, from, added)] = 1;
            }
        }

        void appendTwin(int state) {
            int twin = states;
            states++;
            System.arraycopy(weights, state * ROW, weights, twin * ROW, ROW);
            for (int from = 0; from < states; from++) {
                weights[cellOf(GOING_ON, from, twin)] = go(from, state);
            }
        }

        void merge(int lower, int higher) {
            int among = go(lower, lower) + go(lower, higher) + go(higher, lower) + go(higher, higher);
            for (int cell = 0; cell < ROW; cell++) {
                addInto(lower * ROW + cell, higher * ROW + cell);
            }
            for (int from = 0; from < states; from++) {
                addInto(cellOf(GOING_ON, from, lower), cellOf(GOING_ON, from, higher));
            }
            weights[cellOf(GOING_ON, lower, lower)] = Math.min(among, MOST_WEIGHT);
            dropState(higher);
        }

        private void addInto(int cell, int other) {
            weights[cell] = Math.min(weights[cell] + weights[other], MOST_WEIGHT);
        }

        void dropState(int state) {
            int behind = states - 1 - state;
            System.arraycopy(weights, (state + 1) * ROW, weights, state * ROW, behind * ROW);
            states--;
            for (int from = 0; from < states; from++) {
                for (int to = state; to < states; to++) {
                    weights[cellOf(GOING_ON, from, to)] = go(from, to + 1);
                }
            }
        }

        void beginSample() {
            lengths[samples] = 0;
            samples++;
        }

        void appendSign(int sign) {
            int sample = samples - 1;
            signs[sample * MOST_PLACES + lengths[sample]] = sign;
            lengths[sample]++;
        }

        void dropSample(int sample) {
            int behind = samples - 1 - sample;
            System.arraycopy(lengths, sample + 1, lengths, sample, behind);
            int from = (sample + 1) * MOST_PLACES;
            System.arraycopy(signs, from, signs, sample * MOST_PLACES, behind * MOST_PLACES);
            samples--;
        }
    }

    /** The latest states, the oldest one first. */
    private static final class History {
        private final Model[] past;
        private int size;

        History() {
            past = new Model[MOST_PAST];
            for (int index = 0; index < MOST_PAST; index++) {
                past[index] = new Model();
            }
        }

        void record(Model model) {
            if (size == MOST_PAST) {
                dropOldest();
            }
            past[size].copyFrom(model);
            size++;
        }

        /** Its object moves to the end, to be used again. */
        private void dropOldest() {
            Model oldest = past[0];
            for (int index = 1; index < MOST_PAST; index++) {
                past[index - 1] = past[index];
            }
            past[MOST_PAST - 1] = oldest;
            size--;
        }

        void takeLatest(Model model) {
            size--;
            model.copyFrom(past[size]);
        }
    }

    /** The text of samples that is typed. */
    private static final class SampleText {
        private static final int NO_FAULT = -1;

        private final char[] characters;
        private int length;

        SampleText() {
            characters = new char[MOST_CHARACTERS];
        }

        void append(char character) {
            characters[length] = character;
            length++;
        }

        void empty() {
            length = 0;
        }

        /** The index of the fault, or NO_FAULT. */
        int fault() {
            int letters = 0;
            for (int index = 0; index < length; index++) {
                char character = characters[index];
                if (isLetter(character) && letters < MOST_PLACES) {
                    letters++;
                } else if (character == ';' && letters > 0) {
                    letters = 0;
                } else {
                    return index;
                }
            }
            return letters > 0 ? NO_FAULT : length;
        }

        private static boolean isLetter(char character) {
            return character >= 'a' && character <= 'c';
        }

        /** How many samples a text without a fault has. */
        int samples() {
            int samples = 1;
            for (int index = 0; index < length; index++) {
                if (characters[index] == ';') {
                    samples++;
                }
            }
            return samples;
        }

        /** Only for a text without a fault, whose samples have room. */
        void appendTo(Model model) {
            model.beginSample();
            for (int index = 0; index < length; index++) {
                if (characters[index] == ';') {
                    model.beginSample();
                } else {
                    model.appendSign(characters[index] - 'a');
                }
            }
        }
    }

    /** The weights of all runs of a sample together, by the states and steps that they pass. */
    private static final class Sums {
        private final Model model;
        private int sample;
        private int places;
        // by place and state: of the parts of runs up to there, and of those from there on
        private final long[] ahead;
        private final long[] behind;
        private long total;

        Sums(Model model) {
            this.model = model;
            ahead = new long[MOST_PLACES * MOST_STATES];
            behind = new long[MOST_PLACES * MOST_STATES];
        }

        void read(int sample) {
            this.sample = sample;
            places = model.lengths[sample];
            for (int place = 0; place < places; place++) {
                for (int state = 0; state < model.states; state++) {
                    ahead[place * MOST_STATES + state] = aheadOf(place, state);
                }
            }
            for (int place = places - 1; place >= 0; place--) {
                for (int state = 0; state < model.states; state++) {
                    behind[place * MOST_STATES + state] = behindOf(place, state);
                }
            }
            total = 0;
            for (int state = 0; state < model.states; state++) {
                total += at(0, state);
            }
        }

        private long aheadOf(int place, int state) {
            long into = 0;
            if (place == 0) {
                into = model.begin(state);
            } else {
                for (int from = 0; from < model.states; from++) {
                    into += ahead[(place - 1) * MOST_STATES + from] * model.go(from, state);
                }
            }
            return into * model.showAt(state, sample, place);
        }

        private long behindOf(int place, int state) {
            if (place == places - 1) {
                return 1;
            }
            long out = 0;
            for (int to = 0; to < model.states; to++) {
                out += stepBehind(place, state, to);
            }
            return out;
        }

        private long stepBehind(int place, int state, int to) {
            long entered = behind[(place + 1) * MOST_STATES + to] * model.showAt(to, sample, place + 1);
            return entered * model.go(state, to);
        }

        long at(int place, int state) {
            int cell = place * MOST_STATES + state;
            return ahead[cell] * behind[cell];
        }

        /** At all places with the sign together. */
        long showing(int state, int sign) {
            long sum = 0;
            for (int place = 0; place < places; place++) {
                if (model.signAt(sample, place) == sign) {
                    sum += at(place, state);
                }
            }
            return sum;
        }

        /** Each run as often as it goes on so. */
        long goingOn(int state, int to) {
            long sum = 0;
            for (int place = 0; place < places - 1; place++) {
                sum += ahead[place * MOST_STATES + state] * stepBehind(place, state, to);
            }
            return sum;
        }

        /** The weight of a sign behind the last place. */
        long behindLast(int sign) {
            long sum = 0;
            for (int state = 0; state < model.states; state++) {
                long shown = 0;
                for (int to = 0; to < model.states; to++) {
                    shown += model.go(state, to) * model.show(to, sign);
                }
                sum += at(places - 1, state) * shown;
            }
            return sum;
        }

        int likeliestAt(int place) {
            int likeliest = 0;
            for (int state = 1; state < model.states; state++) {
                if (at(place, state) > at(place, likeliest)) {
                    likeliest = state;
                }
            }
            return likeliest;
        }

        int doubtfulPlaces() {
            int set = 0;
            if (total > 0) {
                for (int place = 0; place < places; place++) {
                    if (shareOf(at(place, likeliestAt(place)), total) < model.bound) {
                        set |= 1 << place;
                    }
                }
            }
            return set;
        }
    }

    /** The best run of a sample. */
    private static final class BestRun {
        private final Model model;
        // by place and state: the greatest weight of a part of a run from there on
        private final long[] greatest;
        private final int[] path;
        private long weight;

        BestRun(Model model) {
            this.model = model;
            greatest = new long[MOST_PLACES * MOST_STATES];
            path = new int[MOST_PLACES];
        }

        void read(int sample) {
            int places = model.lengths[sample];
            for (int place = places - 1; place >= 0; place--) {
                for (int state = 0; state < model.states; state++) {
                    long onward = place == places - 1 ? 1 : going(place, state, nextOf(place, state));
                    greatest[place * MOST_STATES + state] = model.showAt(state, sample, place) * onward;
                }
            }
            path[0] = firstOf();
            weight = beginning(path[0]);
            for (int place = 1; place < places; place++) {
                path[place] = nextOf(place - 1, path[place - 1]);
            }
        }

        private long beginning(int state) {
            return model.begin(state) * greatest[state];
        }

        private long going(int place, int state, int to) {
            return model.go(state, to) * greatest[(place + 1) * MOST_STATES + to];
        }

        /** The lowest state with which a best run begins. */
        private int firstOf() {
            int first = 0;
            for (int state = 1; state < model.states; state++) {
                if (beginning(state) > beginning(first)) {
                    first = state;
                }
            }
            return first;
        }

        /** The lowest state with which it goes on best from this state at this place. */
        private int nextOf(int place, int state) {
            int next = 0;
            for (int to = 1; to < model.states; to++) {
                if (going(place, state, to) > going(place, state, next)) {
                    next = to;
                }
            }
            return next;
        }
    }

    /** The runs of a sample that count, in their order. */
    private static final class RunOrder {
        private final Model model;
        // by place and state: how many parts of runs from there on have a weight above 0
        private final int[] parts;
        private int size;

        RunOrder(Model model) {
            this.model = model;
            parts = new int[MOST_PLACES * MOST_STATES];
        }

        void read(int sample) {
            int places = model.lengths[sample];
            for (int place = places - 1; place >= 0; place--) {
                for (int state = 0; state < model.states; state++) {
                    int going = place == places - 1 ? 1 : partsBehind(place, state);
                    boolean shown = model.showAt(state, sample, place) > 0;
                    parts[place * MOST_STATES + state] = shown ? going : 0;
                }
            }
            size = 0;
            for (int state = 0; state < model.states; state++) {
                size += entering(0, 0, state);
            }
        }

        private int partsBehind(int place, int state) {
            int going = 0;
            for (int to = 0; to < model.states; to++) {
                going += entering(place + 1, state, to);
            }
            return going;
        }

        /** The parts from a place on that begin with a state; the place 0 has no state before it. */
        private int entering(int place, int before, int state) {
            int step = place == 0 ? model.begin(state) : model.go(before, state);
            return step > 0 ? parts[place * MOST_STATES + state] : 0;
        }

        /** The state at a place of the run with this rank, which must be below the size. */
        int stateAt(int rank, int place) {
            int left = rank;
            int state = 0;
            for (int each = 0; each <= place; each++) {
                int before = state;
                state = 0;
                while (state < model.states - 1 && left >= entering(each, before, state)) {
                    left -= entering(each, before, state);
                    state++;
                }
            }
            return state;
        }
    }

    /** Makes the weights of one round of learning. */
    private static final class Learner {
        private final Model model;
        private final Sums sums;
        // both in the order of the model's weights
        private final int[] counts;
        private final int[] made;

        Learner(Model model, Sums sums) {
            this.model = model;
            this.sums = sums;
            counts = new int[Model.CELLS];
            made = new int[Model.CELLS];
        }

        /** Tells whether the round changes any weight, but leaves the weights as they are. */
        boolean prepareRound() {
            Arrays.fill(counts, 0);
            for (int sample = 0; sample < model.samples; sample++) {
                sums.read(sample);
                if (sums.total > 0) {
                    countSample();
                }
            }
            System.arraycopy(model.weights, 0, made, 0, Model.CELLS);
            makeFamily(BEGINNING, 0);
            for (int state = 0; state < model.states; state++) {
                makeFamily(GOING_ON, state);
                makeFamily(SHOWING, state);
            }
            return differs();
        }

        void finishRound() {
            System.arraycopy(made, 0, model.weights, 0, Model.CELLS);
        }

        private void countSample() {
            for (int state = 0; state < model.states; state++) {
                addCount(Model.cellOf(BEGINNING, state, 0), sums.at(0, state));
                for (int to = 0; to < model.states; to++) {
                    addCount(Model.cellOf(GOING_ON, state, to), sums.goingOn(state, to));
                }
                for (int sign = 0; sign < SIGNS; sign++) {
                    addCount(Model.cellOf(SHOWING, state, sign), sums.showing(state, sign));
                }
            }
        }

        private void addCount(int cell, long weight) {
            counts[cell] += shareOf(weight, sums.total);
        }

        private void makeFamily(int kind, int state) {
            int size = model.familySize(kind);
            int greatest = 0;
            for (int member = 0; member < size; member++) {
                greatest = Math.max(greatest, counts[Model.memberCell(kind, state, member)]);
            }
            if (greatest <= 0) {
                return;
            }
            for (int member = 0; member < size; member++) {
                int cell = Model.memberCell(kind, state, member);
                made[cell] = (MOST_WEIGHT * counts[cell] + greatest / 2) / greatest;
            }
        }

        private boolean differs() {
            for (int cell = 0; cell < Model.CELLS; cell++) {
                if (made[cell] != model.weights[cell]) {
                    return true;
                }
            }
            return false;
        }
    }
}
