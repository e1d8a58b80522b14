import java.util.Arrays;

/**
 * A memory of stages in a row that hand charges over by a clock, with references that mend what comes out.
 * The document ../shared/DOC.md says what every call promises.
 */
public final class ChargeLines {
    public static final int INVALID_ARGUMENT = -2000001;
    public static final int NOT_POSSIBLE = -2000002;
    public static final int LIMIT_REACHED = -2000003;
    public static final int NOT_FOUND = -2000004;

    private static final int FEWEST_STAGES = 2;
    private static final int MOST_STAGES = 10;
    private static final int FIRST_STAGES = 4;
    private static final int THOUSAND = 1000;
    private static final int MOST_SHARE = 300;
    private static final int MOST_SAMPLE = 10000;
    private static final int MOST_IDLE = 40;
    private static final int MOST_AFTER = 40;
    private static final int MOST_HAND_OVERS = 999;
    private static final int MOST_UNTIL_EMPTY = 400;
    private static final int SAFE_TIMES = 40;
    private static final int MOST_OUTPUT = 100000;
    private static final int MOST_MENDED = 1000000;
    private static final int ERRORS_OFFSET = 100000000;

    private static final int CAPACITY = 0;
    private static final int PERIOD = 1;
    private static final int FIRST_SIZE = 2;
    private static final int SETTINGS = 5;
    private static final int[] FIRST_SETTINGS = {20000, 0, 1000, 4000, 9000};
    private static final int[] LEAST_SETTINGS = {1000, 0, 1, 1, 1};
    private static final int[] MOST_SETTINGS = {100000, 12, 10000, 10000, 10000};
    private static final int COUNT_OF_SETTINGS = 20;

    private static final int REFERENCES = 3;
    private static final int NO_REFERENCE = -1;
    /** No mended output is so far below 0. */
    private static final int UNMENDED = NOT_FOUND;

    private static final int KEPT = 16;
    /** The kept outputs reach 16 numbers back, and their samples 10 more: 32 slots hold them all. */
    private static final int SLOTS = 32;
    private static final int SLOT_MASK = 31;

    private static final int STATES = 4;
    private static final int STATE_MASK = 3;

    private static final int FIRST_SIGN = 32;
    private static final int LAST_SIGN = 126;
    private static final int MOST_SIGNS = 60;
    private static final int NUMBERS = 3;
    private static final int MOST_DIGITS = 5;
    private static final int WRONG_FORM = 1;
    private static final int NO_SUCH_STAGE = 2;
    private static final int OUT_OF_RANGE = 3;

    private static final int FLOAT_BIAS = 127;
    private static final int FLOAT_FRACTION_BITS = 23;
    private static final int FLOAT_FRACTION = 8388608;

    private final Line line = new Line();
    private final History history = new History();
    private final Text text = new Text();
    /** Made once and used by all calls that tell what would be. */
    private final Stages trial = new Stages();

    public ChargeLines() {
    }

    // ---- the line

    public int begin(int stages) {
        if (outside(stages, FEWEST_STAGES, MOST_STAGES)) {
            return INVALID_ARGUMENT;
        }
        int before = line.handOvers;
        history.keep(line);
        line.startAnew(stages);
        return before;
    }

    public int stage(int stage, int stays, int leaks) {
        if (!line.stages.has(stage) || outside(stays, 0, MOST_SHARE) || outside(leaks, 0, MOST_SHARE)) {
            return INVALID_ARGUMENT;
        }
        int before = THOUSAND * line.stages.stays[stage] + line.stages.leaks[stage];
        history.keep(line);
        line.stages.changeShares(stage, stays, leaks);
        return before;
    }

    public int set(int what, int value) {
        if (outside(what, 0, SETTINGS - 1) || outside(value, LEAST_SETTINGS[what], MOST_SETTINGS[what])) {
            return INVALID_ARGUMENT;
        }
        int before = line.settings[what];
        history.keep(line);
        line.settings[what] = value;
        return before;
    }

    public int give(int sample) {
        if (outside(sample, 0, MOST_SAMPLE)) {
            return INVALID_ARGUMENT;
        }
        return takeTimes(sample, 1);
    }

    public int idle(int many) {
        if (outside(many, 1, MOST_IDLE)) {
            return INVALID_ARGUMENT;
        }
        return takeTimes(0, many);
    }

    private int takeTimes(int sample, int times) {
        int before = line.handOvers;
        if (line.handOversBehind(times) > MOST_HAND_OVERS) {
            return LIMIT_REACHED;
        }
        history.keep(line);
        for (int i = 0; i < times; i++) {
            line.take(sample);
        }
        return line.handOvers - before;
    }

    // ---- what there is

    public int stageOf(int stage, int what) {
        if (!line.stages.has(stage)) {
            return INVALID_ARGUMENT;
        }
        switch (what) {
            case 0:
                return line.stages.charge[stage];
            case 1:
                return line.stages.stays[stage];
            case 2:
                return line.stages.leaks[stage];
            case 3:
                return line.stages.staying(stage);
            case 4:
                return line.stages.leaking(stage);
            case 5:
                return line.stages.leaving(stage);
            default:
                return INVALID_ARGUMENT;
        }
    }

    public int outputOf(int index, int what) {
        if (index < 0 || outside(what, 0, 5)) {
            return INVALID_ARGUMENT;
        }
        if (index >= line.keptOutputs()) {
            return NOT_FOUND;
        }
        int number = line.handOvers - 1 - index;
        switch (what) {
            case 0:
                return number;
            case 1:
                return line.samples[line.sourceSlot(number)];
            case 2:
                return line.outputs[number & SLOT_MASK];
            case 3:
                return line.mendedOutputs[number & SLOT_MASK];
            case 4:
                return line.isOfReference(number) ? 1 : 0;
            default:
                return line.errorOf(number);
        }
    }

    public int pairOf(int reference, int what) {
        if (outside(reference, 0, REFERENCES - 1) || outside(what, 0, 1)) {
            return INVALID_ARGUMENT;
        }
        if (!line.pairs.isKnown(reference)) {
            return NOT_FOUND;
        }
        return what == 0 ? line.pairs.outputs[reference] : line.pairs.sizes[reference];
    }

    public int mended(int output) {
        if (outside(output, 0, MOST_OUTPUT)) {
            return INVALID_ARGUMENT;
        }
        return line.pairs.mend(output);
    }

    public int errors(int what) {
        if (outside(what, 0, 3)) {
            return INVALID_ARGUMENT;
        }
        int many = 0;
        int greatest = 0;
        int sum = 0;
        int sizes = 0;
        int kept = line.keptOutputs();
        for (int i = 1; i <= kept; i++) {
            int number = line.handOvers - i;
            if (!line.isOfReference(number)) {
                int error = line.errorOf(number);
                many++;
                greatest = Math.max(greatest, Math.abs(error));
                sum += error;
                sizes += Math.abs(error);
            }
        }
        if (what == 0) {
            return many;
        }
        if (many == 0) {
            return NOT_FOUND;
        }
        if (what == 1) {
            return greatest;
        }
        return what == 2 ? sum + ERRORS_OFFSET : bitsOf((float) sizes / (float) many);
    }

    public int account(int what) {
        switch (what) {
            case 0:
                return line.stages.given;
            case 1:
                return line.stages.cameOut;
            case 2:
                return line.stages.leaked;
            case 3:
                return line.stages.spilled;
            case 4:
                return line.stages.inStages();
            default:
                return INVALID_ARGUMENT;
        }
    }

    // ---- what would be

    public int echo(int sample, int after) {
        if (outside(sample, 0, MOST_SAMPLE) || outside(after, 1, MOST_AFTER)) {
            return INVALID_ARGUMENT;
        }
        trial.copyFrom(line.stages);
        return trial.outputOfLone(sample, after, line.settings[CAPACITY]);
    }

    public int emptyAfter() {
        trial.copyFrom(line.stages);
        for (int many = 0; many <= MOST_UNTIL_EMPTY; many++) {
            if (trial.inStages() == 0) {
                return many;
            }
            trial.handOver(0, line.settings[CAPACITY]);
        }
        return NOT_FOUND;
    }

    public int worn(int what) {
        if (outside(what, 0, 1)) {
            return INVALID_ARGUMENT;
        }
        int worst = 0;
        int greatest = outputWithoutShares(0);
        for (int stage = 1; stage < line.stages.many; stage++) {
            int output = outputWithoutShares(stage);
            if (output > greatest) {
                worst = stage;
                greatest = output;
            }
        }
        return what == 0 ? worst : greatest;
    }

    private int outputWithoutShares(int stage) {
        trial.copyFrom(line.stages);
        trial.changeShares(stage, 0, 0);
        return trial.outputOfLone(MOST_SAMPLE, trial.many, line.settings[CAPACITY]);
    }

    public int safe() {
        int capacity = line.settings[CAPACITY];
        trial.copyFrom(line.stages);
        int found = 0;
        // More charge never leaves less in a stage, nor moves less out of it: what is below a safe sample is safe too.
        for (int step = 8192; step > 0; step /= 2) {
            int sample = found + step;
            if (sample <= MOST_SAMPLE && trial.holds(sample, SAFE_TIMES, capacity)) {
                found = sample;
            }
        }
        return found;
    }

    public int count(int what) {
        switch (what) {
            case 0:
                return line.stages.many;
            case 1:
                return line.handOvers;
            case 2:
                return line.keptOutputs();
            case 3:
                return line.references;
            case 4:
                return line.pairs.known();
            case 5:
                return line.nextReference();
            case 6:
                return line.isForReference(line.handOvers) ? 1 : 0;
            case 7:
                return history.many;
            case 8:
                return text.length;
            default:
                return settingOfCount(what);
        }
    }

    private int settingOfCount(int what) {
        if (outside(what, COUNT_OF_SETTINGS, COUNT_OF_SETTINGS + SETTINGS - 1)) {
            return INVALID_ARGUMENT;
        }
        return line.settings[what - COUNT_OF_SETTINGS];
    }

    public int undo() {
        if (history.many == 0) {
            return NOT_POSSIBLE;
        }
        history.restore(line);
        return history.many;
    }

    // ---- texts

    public int type(int character) {
        if (outside(character, FIRST_SIGN, LAST_SIGN)) {
            return INVALID_ARGUMENT;
        }
        if (text.length >= MOST_SIGNS) {
            return LIMIT_REACHED;
        }
        text.append((char) character);
        return text.length;
    }

    public int clearText() {
        int before = text.length;
        text.clear();
        return before;
    }

    public int fault(int what) {
        if (outside(what, 0, 2)) {
            return INVALID_ARGUMENT;
        }
        int position = text.faultPosition(line.stages.many);
        if (position == NOT_FOUND) {
            return NOT_FOUND;
        }
        if (what == 0) {
            return position;
        }
        return what == 1 ? text.reason : text.cause;
    }

    public int play() {
        int stages = line.stages.many;
        if (text.faultPosition(stages) != NOT_FOUND) {
            return NOT_POSSIBLE;
        }
        if (line.handOversBehind(text.samples) > MOST_HAND_OVERS) {
            return LIMIT_REACHED;
        }
        history.keep(line);
        int parts = text.parts;
        int position = 0;
        for (int i = 0; i < parts; i++) {
            text.readPart(position, stages);
            playPart();
            position = text.at;
        }
        return parts;
    }

    private void playPart() {
        if (text.kind == 's') {
            line.take(text.numbers[0]);
        } else if (line.stages.has(text.numbers[0])) {
            line.stages.changeShares(text.numbers[0], text.numbers[1], text.numbers[2]);
        }
    }

    private static boolean outside(int value, int least, int most) {
        return value < least || value > most;
    }

    /** The bits of a float that is 0 or more; put together by hand, as LANGUAGE.md has no call for it. */
    private static int bitsOf(float value) {
        if (!(value > 0f)) {
            return 0;
        }
        float fraction = value;
        int exponent = FLOAT_BIAS;
        while (fraction >= 2f && exponent < 2 * FLOAT_BIAS) {
            fraction /= 2f;
            exponent++;
        }
        while (fraction < 1f && exponent > 1) {
            fraction *= 2f;
            exponent--;
        }
        return (exponent << FLOAT_FRACTION_BITS) | (int) ((fraction - 1f) * (float) FLOAT_FRACTION);
    }

    /** The stages in a row, and the accounts of the charge that went through them. */
    private static final class Stages {
        int many = FIRST_STAGES;
        final int[] charge = new int[MOST_STAGES];
        final int[] stays = new int[MOST_STAGES];
        final int[] leaks = new int[MOST_STAGES];
        int given;
        int cameOut;
        int leaked;
        int spilled;

        void copyFrom(Stages other) {
            many = other.many;
            System.arraycopy(other.charge, 0, charge, 0, MOST_STAGES);
            System.arraycopy(other.stays, 0, stays, 0, MOST_STAGES);
            System.arraycopy(other.leaks, 0, leaks, 0, MOST_STAGES);
            given = other.given;
            cameOut = other.cameOut;
            leaked = other.leaked;
            spilled = other.spilled;
        }

        boolean has(int stage) {
            return stage >= 0 && stage < many;
        }

        void changeShares(int stage, int newStays, int newLeaks) {
            stays[stage] = newStays;
            leaks[stage] = newLeaks;
        }

        void changeMany(int stages) {
            for (int stage = stages; stage < MOST_STAGES; stage++) {
                changeShares(stage, 0, 0);
            }
            many = stages;
        }

        void empty() {
            Arrays.fill(charge, 0);
            given = 0;
            cameOut = 0;
            leaked = 0;
            spilled = 0;
        }

        int inStages() {
            int sum = 0;
            for (int stage = 0; stage < many; stage++) {
                sum += charge[stage];
            }
            return sum;
        }

        int staying(int stage) {
            return charge[stage] * stays[stage] / THOUSAND;
        }

        int leaking(int stage) {
            return (charge[stage] - staying(stage)) * leaks[stage] / THOUSAND;
        }

        int leaving(int stage) {
            return charge[stage] - staying(stage) - leaking(stage);
        }

        /** Returns the output. */
        int handOver(int sample, int capacity) {
            int coming = sample;
            for (int stage = 0; stage < many; stage++) {
                int staying = staying(stage);
                int leaking = leaking(stage);
                int leaving = charge[stage] - staying - leaking;
                int together = staying + coming;
                charge[stage] = Math.min(together, capacity);
                spilled += together - charge[stage];
                leaked += leaking;
                coming = leaving;
            }
            given += sample;
            cameOut += coming;
            return coming;
        }

        int outputOfLone(int sample, int after, int capacity) {
            empty();
            int output = handOver(sample, capacity);
            for (int i = 0; i < after; i++) {
                output = handOver(0, capacity);
            }
            return output;
        }

        boolean holds(int sample, int times, int capacity) {
            empty();
            for (int i = 0; i < times && spilled == 0; i++) {
                handOver(sample, capacity);
            }
            return spilled == 0;
        }
    }

    /** What the references made: of each the latest output and its size. */
    private static final class Pairs {
        final int[] outputs = new int[REFERENCES];
        /** Every size is 1 or more, so that 0 stands for a pair that is not known. */
        final int[] sizes = new int[REFERENCES];

        void copyFrom(Pairs other) {
            System.arraycopy(other.outputs, 0, outputs, 0, REFERENCES);
            System.arraycopy(other.sizes, 0, sizes, 0, REFERENCES);
        }

        void forget() {
            Arrays.fill(outputs, 0);
            Arrays.fill(sizes, 0);
        }

        void learn(int reference, int output, int size) {
            outputs[reference] = output;
            sizes[reference] = size;
        }

        boolean isKnown(int reference) {
            return sizes[reference] > 0;
        }

        int known() {
            int many = 0;
            for (int reference = 0; reference < REFERENCES; reference++) {
                many += isKnown(reference) ? 1 : 0;
            }
            return many;
        }

        /** Returns the mended output, or UNMENDED. */
        int mend(int output) {
            int low = NO_REFERENCE;
            int high = NO_REFERENCE;
            // "<" and ">" alone: of two with the same output the lower reference stays.
            for (int reference = 0; reference < REFERENCES; reference++) {
                int at = outputs[reference];
                if (isKnown(reference) && at > 0) {
                    if (at <= output && (low == NO_REFERENCE || at > outputs[low])) {
                        low = reference;
                    }
                    if (at >= output && (high == NO_REFERENCE || at < outputs[high])) {
                        high = reference;
                    }
                }
            }
            if (low == NO_REFERENCE && high == NO_REFERENCE) {
                return UNMENDED;
            }
            if (low == NO_REFERENCE) {
                return mendBy(high, output);
            }
            return high == NO_REFERENCE ? mendBy(low, output) : mendBetween(low, high, output);
        }

        private int mendBetween(int low, int high, int output) {
            int width = outputs[high] - outputs[low];
            if (width == 0) {
                return sizes[low];
            }
            int rise = (output - outputs[low]) * (sizes[high] - sizes[low]);
            return sizes[low] + Math.floorDiv(rise, width);
        }

        private int mendBy(int reference, int output) {
            int divisor = outputs[reference];
            if (divisor == 0) {
                return UNMENDED;
            }
            long mended = (long) output * sizes[reference] / divisor;
            return (int) Math.min(mended, MOST_MENDED);
        }
    }

    /** All that a change records: the stages, the settings, the pairs, and what went in and came out. */
    private static final class Line {
        final Stages stages = new Stages();
        final Pairs pairs = new Pairs();
        final int[] settings = FIRST_SETTINGS.clone();
        int handOvers;
        int references;
        /** The slot of a hand-over is its number, with SLOT_MASK. */
        final int[] samples = new int[SLOTS];
        final int[] referencesOfSamples = new int[SLOTS];
        final int[] outputs = new int[SLOTS];
        final int[] mendedOutputs = new int[SLOTS];

        void copyFrom(Line other) {
            stages.copyFrom(other.stages);
            pairs.copyFrom(other.pairs);
            System.arraycopy(other.settings, 0, settings, 0, SETTINGS);
            handOvers = other.handOvers;
            references = other.references;
            System.arraycopy(other.samples, 0, samples, 0, SLOTS);
            System.arraycopy(other.referencesOfSamples, 0, referencesOfSamples, 0, SLOTS);
            System.arraycopy(other.outputs, 0, outputs, 0, SLOTS);
            System.arraycopy(other.mendedOutputs, 0, mendedOutputs, 0, SLOTS);
        }

        void startAnew(int many) {
            stages.changeMany(many);
            stages.empty();
            pairs.forget();
            handOvers = 0;
            references = 0;
        }

        boolean isForReference(int number) {
            int period = settings[PERIOD];
            return period != 0 && number % period == 0;
        }

        int nextReference() {
            return references % REFERENCES;
        }

        /** Returns how many hand-overs there would be behind some more samples. */
        int handOversBehind(int moreSamples) {
            int number = handOvers;
            for (int i = 0; i < moreSamples; i++) {
                number += isForReference(number) ? 2 : 1;
            }
            return number;
        }

        void take(int sample) {
            if (isForReference(handOvers)) {
                int reference = nextReference();
                references++;
                handOver(settings[FIRST_SIZE + reference], reference);
            }
            handOver(sample, NO_REFERENCE);
        }

        private void handOver(int sample, int reference) {
            int output = stages.handOver(sample, settings[CAPACITY]);
            int slot = handOvers & SLOT_MASK;
            samples[slot] = sample;
            referencesOfSamples[slot] = reference;
            outputs[slot] = output;
            if (handOvers >= stages.many) {
                learnFrom(output, sourceSlot(handOvers));
                mendedOutputs[slot] = pairs.mend(output);
            }
            handOvers++;
        }

        private void learnFrom(int output, int source) {
            int reference = referencesOfSamples[source];
            if (reference != NO_REFERENCE) {
                pairs.learn(reference, output, samples[source]);
            }
        }

        int keptOutputs() {
            return Math.max(0, Math.min(KEPT, handOvers - stages.many));
        }

        /** Returns the slot of the sample to which the output with a number belongs. */
        int sourceSlot(int number) {
            return (number - stages.many) & SLOT_MASK;
        }

        boolean isOfReference(int number) {
            return referencesOfSamples[sourceSlot(number)] != NO_REFERENCE;
        }

        int errorOf(int number) {
            int slot = number & SLOT_MASK;
            int output = mendedOutputs[slot] == UNMENDED ? outputs[slot] : mendedOutputs[slot];
            return output - samples[sourceSlot(number)];
        }
    }

    /** The states before the latest changes, in lines that are made once and used in turn. */
    private static final class History {
        private final Line[] states = new Line[STATES];
        private int first;
        int many;

        History() {
            for (int i = 0; i < STATES; i++) {
                states[i] = new Line();
            }
        }

        void keep(Line line) {
            if (many == STATES) {
                first = (first + 1) & STATE_MASK;
                many--;
            }
            states[(first + many) & STATE_MASK].copyFrom(line);
            many++;
        }

        void restore(Line line) {
            many--;
            line.copyFrom(states[(first + many) & STATE_MASK]);
        }
    }

    /** The text, and what its part that was read last says. */
    private static final class Text {
        private final char[] signs = new char[MOST_SIGNS];
        int length;
        int parts;
        int samples;
        /** Up to where the part was read. */
        int at;
        char kind;
        final int[] numbers = new int[NUMBERS];
        /** 0 if the part is possible. */
        int reason;
        int cause;

        void append(char sign) {
            if (length < MOST_SIGNS) {
                signs[length] = sign;
                length++;
            }
        }

        void clear() {
            length = 0;
        }

        /** Returns where the first part begins that is not possible, or NOT_FOUND; counts parts and samples. */
        int faultPosition(int stages) {
            parts = 0;
            samples = 0;
            int position = 0;
            while (parts < MOST_SIGNS && position < length) {
                readPart(position, stages);
                if (reason != 0) {
                    return position;
                }
                parts++;
                samples += kind == 's' ? 1 : 0;
                position = at;
            }
            return NOT_FOUND;
        }

        void readPart(int position, int stages) {
            at = position;
            reason = 0;
            cause = NOT_FOUND;
            if (!readForm()) {
                reason = WRONG_FORM;
                cause = at - position;
            } else if (kind == 'l' && numbers[0] >= stages) {
                reason = NO_SUCH_STAGE;
            } else {
                findOutOfRange();
            }
        }

        private void findOutOfRange() {
            int most = kind == 's' ? MOST_SAMPLE : MOST_SHARE;
            int many = kind == 's' ? 1 : NUMBERS;
            for (int i = 0; i < many && reason == 0; i++) {
                if (numbers[i] > most) {
                    reason = OUT_OF_RANGE;
                    cause = i;
                }
            }
        }

        /** Reads on as far as the part keeps to its form. */
        private boolean readForm() {
            if (reads('s')) {
                kind = 's';
                return readsNumber(0, MOST_DIGITS) && reads(';');
            }
            if (reads('l')) {
                kind = 'l';
                return readsNumber(0, 1) && reads(',') && readsNumber(1, MOST_DIGITS) && reads(',')
                        && readsNumber(2, MOST_DIGITS) && reads(';');
            }
            return false;
        }

        private boolean reads(char sign) {
            if (at >= length || at >= MOST_SIGNS || signs[at] != sign) {
                return false;
            }
            at++;
            return true;
        }

        private boolean readsNumber(int which, int mostDigits) {
            int value = 0;
            int digits = 0;
            while (digits < mostDigits && atDigit()) {
                value = 10 * value + (signs[at] - '0');
                at++;
                digits++;
            }
            numbers[which] = value;
            return digits > 0;
        }

        private boolean atDigit() {
            return at < length && at < MOST_SIGNS && signs[at] >= '0' && signs[at] <= '9';
        }
    }
}
