import java.util.ArrayDeque;
import java.util.ArrayList;
import java.util.Arrays;
import java.util.Comparator;
import java.util.Deque;
import java.util.List;
import java.util.regex.Matcher;
import java.util.regex.Pattern;

/**
 * The document once more, in its own words rather than in few steps: it keeps every hand-over since the line began,
 * searches by trying one by one, and copies everything for its history.
 */
final class Model {
    /** What is known of one hand-over. */
    private static final class HandOver {
        int sample;
        int reference = -1;
        int output;
        Integer mended;
    }

    private static final class Pair {
        int reference;
        int output;
        int size;
    }

    private static final class State {
        int stages = 4;
        long[] charge = new long[4];
        int[][] shares = new int[10][2];
        int[] settings = {20000, 0, 1000, 4000, 9000};
        List<HandOver> handOvers = new ArrayList<>();
        List<Pair> pairs = new ArrayList<>();
        int turn;
        int referencesGiven;
        long[] account = new long[4];

        State copy() {
            State other = new State();
            other.stages = stages;
            other.charge = charge.clone();
            other.shares = Arrays.stream(shares).map(int[]::clone).toArray(int[][]::new);
            other.settings = settings.clone();
            other.handOvers = new ArrayList<>(handOvers);
            other.pairs = new ArrayList<>(pairs);
            other.turn = turn;
            other.referencesGiven = referencesGiven;
            other.account = account.clone();
            return other;
        }
    }

    private static final int[] LEAST = {1000, 0, 1, 1, 1};
    private static final int[] MOST = {100000, 12, 10000, 10000, 10000};

    private State now = new State();
    private final Deque<State> history = new ArrayDeque<>();
    private String text = "";

    private void remember() {
        history.addLast(now.copy());
        if (history.size() == 5) {
            history.removeFirst();
        }
    }

    private static long share(long charge, int thousandths) {
        return Math.floorDiv(charge * thousandths, 1000L);
    }

    /** Parts all stages first, and only then puts the charges where they go. */
    private static long move(State state, long sample) {
        int n = state.stages;
        long[] stayed = new long[n];
        long[] moved = new long[n];
        for (int i = 0; i < n; i++) {
            stayed[i] = share(state.charge[i], state.shares[i][0]);
            long rest = state.charge[i] - stayed[i];
            long leak = share(rest, state.shares[i][1]);
            moved[i] = rest - leak;
            state.account[2] += leak;
        }
        for (int i = 0; i < n; i++) {
            long has = stayed[i] + (i == 0 ? sample : moved[i - 1]);
            if (has > state.settings[0]) {
                state.account[3] += has - state.settings[0];
                has = state.settings[0];
            }
            state.charge[i] = has;
        }
        state.account[0] += sample;
        state.account[1] += moved[n - 1];
        return moved[n - 1];
    }

    private static void handOver(State state, int sample, int reference) {
        HandOver one = new HandOver();
        one.sample = sample;
        one.reference = reference;
        one.output = (int) move(state, sample);
        state.handOvers.add(one);
        int source = state.handOvers.size() - 1 - state.stages;
        if (source < 0) {
            return;
        }
        HandOver belongs = state.handOvers.get(source);
        if (belongs.reference >= 0) {
            Pair pair = new Pair();
            pair.reference = belongs.reference;
            pair.output = one.output;
            pair.size = belongs.sample;
            state.pairs.removeIf(p -> p.reference == pair.reference);
            state.pairs.add(pair);
        }
        one.mended = mend(state, one.output);
    }

    private static boolean forReference(State state) {
        return state.settings[1] != 0 && state.handOvers.size() % state.settings[1] == 0;
    }

    private static void take(State state, int sample) {
        if (forReference(state)) {
            int reference = state.turn;
            state.turn = (state.turn + 1) % 3;
            state.referencesGiven++;
            handOver(state, state.settings[2 + reference], reference);
        }
        handOver(state, sample, -1);
    }

    private static Integer mend(State state, long output) {
        List<Pair> table = new ArrayList<>();
        List<Pair> byReference = new ArrayList<>(state.pairs);
        byReference.sort(Comparator.comparingInt(p -> p.reference));
        for (Pair pair : byReference) {
            if (pair.output != 0 && table.stream().noneMatch(p -> p.output == pair.output)) {
                table.add(pair);
            }
        }
        table.sort(Comparator.comparingInt(p -> p.output));
        if (table.isEmpty()) {
            return null;
        }
        Pair first = table.get(0);
        Pair last = table.get(table.size() - 1);
        long mended;
        if (table.size() == 1 || output < first.output) {
            mended = Math.floorDiv(output * first.size, (long) first.output);
        } else if (output > last.output) {
            mended = Math.floorDiv(output * last.size, (long) last.output);
        } else {
            int i = 0;
            while (output > table.get(i + 1).output) {
                i++;
            }
            Pair p = table.get(i);
            Pair q = table.get(i + 1);
            mended = p.size + Math.floorDiv((output - p.output) * (q.size - p.size), (long) (q.output - p.output));
        }
        return (int) Math.max(-1000000, Math.min(1000000, mended));
    }

    private State emptyLine() {
        State trial = now.copy();
        trial.charge = new long[trial.stages];
        trial.account = new long[4];
        return trial;
    }

    int begin(int stages) {
        if (stages < 2 || stages > 10) {
            return Check.INVALID;
        }
        remember();
        int before = now.handOvers.size();
        for (int i = Math.min(stages, now.stages); i < 10; i++) {
            now.shares[i] = new int[2];
        }
        now.stages = stages;
        now.charge = new long[stages];
        now.handOvers.clear();
        now.pairs.clear();
        now.turn = 0;
        now.referencesGiven = 0;
        now.account = new long[4];
        return before;
    }

    int stage(int stage, int stays, int leaks) {
        if (stage < 0 || stage >= now.stages || stays < 0 || stays > 300 || leaks < 0 || leaks > 300) {
            return Check.INVALID;
        }
        remember();
        int[] before = now.shares[stage];
        now.shares[stage] = new int[] {stays, leaks};
        return 1000 * before[0] + before[1];
    }

    int set(int what, int value) {
        if (what < 0 || what > 4 || value < LEAST[what] || value > MOST[what]) {
            return Check.INVALID;
        }
        remember();
        int before = now.settings[what];
        now.settings[what] = value;
        return before;
    }

    int give(int sample) {
        return sample < 0 || sample > 10000 ? Check.INVALID : takeAll(sample, 1);
    }

    int idle(int many) {
        return many < 1 || many > 40 ? Check.INVALID : takeAll(0, many);
    }

    private int takeAll(int sample, int times) {
        State next = now.copy();
        for (int i = 0; i < times; i++) {
            take(next, sample);
        }
        if (next.handOvers.size() > 999) {
            return Check.LIMIT;
        }
        int took = next.handOvers.size() - now.handOvers.size();
        remember();
        now = next;
        return took;
    }

    int stageOf(int stage, int what) {
        if (stage < 0 || stage >= now.stages || what < 0 || what > 5) {
            return Check.INVALID;
        }
        long charge = now.charge[stage];
        long stays = share(charge, now.shares[stage][0]);
        long leaks = share(charge - stays, now.shares[stage][1]);
        long[] all = {charge, now.shares[stage][0], now.shares[stage][1], stays, leaks, charge - stays - leaks};
        return (int) all[what];
    }

    private List<int[]> kept() {
        List<int[]> kept = new ArrayList<>();
        for (int number = now.handOvers.size() - 1; number >= now.stages && kept.size() < 16; number--) {
            HandOver out = now.handOvers.get(number);
            HandOver in = now.handOvers.get(number - now.stages);
            int error = (out.mended == null ? out.output : out.mended) - in.sample;
            kept.add(new int[] {number, in.sample, out.output, out.mended == null ? Check.NOT_FOUND : out.mended,
                in.reference >= 0 ? 1 : 0, error});
        }
        return kept;
    }

    int outputOf(int index, int what) {
        if (index < 0 || what < 0 || what > 5) {
            return Check.INVALID;
        }
        List<int[]> kept = kept();
        return index < kept.size() ? kept.get(index)[what] : Check.NOT_FOUND;
    }

    int pairOf(int reference, int what) {
        if (reference < 0 || reference > 2 || what < 0 || what > 1) {
            return Check.INVALID;
        }
        for (Pair pair : now.pairs) {
            if (pair.reference == reference) {
                return what == 0 ? pair.output : pair.size;
            }
        }
        return Check.NOT_FOUND;
    }

    int mended(int output) {
        if (output < 0 || output > 100000) {
            return Check.INVALID;
        }
        Integer mended = mend(now, output);
        return mended == null ? Check.NOT_FOUND : mended;
    }

    int errors(int what) {
        if (what < 0 || what > 3) {
            return Check.INVALID;
        }
        int[] errors = kept().stream().filter(k -> k[4] == 0).mapToInt(k -> k[5]).toArray();
        if (what == 0) {
            return errors.length;
        }
        if (errors.length == 0) {
            return Check.NOT_FOUND;
        }
        int[] sizes = Arrays.stream(errors).map(Math::abs).toArray();
        if (what == 1) {
            return Arrays.stream(sizes).max().getAsInt();
        }
        if (what == 2) {
            return Arrays.stream(errors).sum() + 100000000;
        }
        return Float.floatToIntBits((float) Arrays.stream(sizes).sum() / (float) sizes.length);
    }

    int account(int what) {
        if (what < 0 || what > 4) {
            return Check.INVALID;
        }
        return (int) (what == 4 ? Arrays.stream(now.charge).sum() : now.account[what]);
    }

    int echo(int sample, int after) {
        if (sample < 0 || sample > 10000 || after < 1 || after > 40) {
            return Check.INVALID;
        }
        return lone(emptyLine(), sample, after);
    }

    private static int lone(State trial, int sample, int after) {
        long output = move(trial, sample);
        for (int i = 0; i < after; i++) {
            output = move(trial, 0);
        }
        return (int) output;
    }

    int emptyAfter() {
        State trial = now.copy();
        for (int many = 0; many <= 400; many++) {
            if (Arrays.stream(trial.charge).allMatch(c -> c == 0)) {
                return many;
            }
            move(trial, 0);
        }
        return Check.NOT_FOUND;
    }

    int worn(int what) {
        if (what < 0 || what > 1) {
            return Check.INVALID;
        }
        int[] best = {-1, -1};
        for (int stage = now.stages - 1; stage >= 0; stage--) {
            State trial = emptyLine();
            trial.shares[stage] = new int[2];
            int output = lone(trial, 10000, now.stages);
            if (output >= best[1]) {
                best = new int[] {stage, output};
            }
        }
        return best[what];
    }

    int safe() {
        for (int sample = 10000; sample > 0; sample--) {
            State trial = emptyLine();
            for (int i = 0; i < 40 && trial.account[3] == 0; i++) {
                move(trial, sample);
            }
            if (trial.account[3] == 0) {
                return sample;
            }
        }
        return 0;
    }

    int count(int what) {
        if (what >= 20 && what <= 24) {
            return now.settings[what - 20];
        }
        if (what < 0 || what > 8) {
            return Check.INVALID;
        }
        int[] all = {now.stages, now.handOvers.size(), kept().size(), now.referencesGiven, now.pairs.size(), now.turn,
            forReference(now) ? 1 : 0, history.size(), text.length()};
        return all[what];
    }

    int undo() {
        if (history.isEmpty()) {
            return Check.NOT_POSSIBLE;
        }
        now = history.removeLast();
        return history.size();
    }

    int type(int character) {
        if (character < 32 || character > 126) {
            return Check.INVALID;
        }
        if (text.length() == 60) {
            return Check.LIMIT;
        }
        text += (char) character;
        return text.length();
    }

    int clearText() {
        int before = text.length();
        text = "";
        return before;
    }

    private static final Pattern PART = Pattern.compile("s(\\d{1,5});|l(\\d),(\\d{1,5}),(\\d{1,5});");

    /** The parts as numbers, the last one null if it is not of the form; faulty gets position, reason and cause. */
    private List<int[]> parts(int[] faulty) {
        List<int[]> parts = new ArrayList<>();
        int at = 0;
        while (at < text.length()) {
            Matcher matcher = PART.matcher(text).region(at, text.length());
            if (!matcher.lookingAt()) {
                blame(faulty, at, 1, breaksOffAt(text.substring(at)));
                return parts;
            }
            if (matcher.group(1) != null) {
                int sample = Integer.parseInt(matcher.group(1));
                if (sample > 10000) {
                    blame(faulty, at, 3, 0);
                    return parts;
                }
                parts.add(new int[] {sample});
            } else {
                int[] numbers = new int[3];
                for (int i = 0; i < 3; i++) {
                    numbers[i] = Integer.parseInt(matcher.group(2 + i));
                }
                if (numbers[0] >= now.stages) {
                    blame(faulty, at, 2, Check.NOT_FOUND);
                    return parts;
                }
                if (numbers[1] > 300 || numbers[2] > 300) {
                    blame(faulty, at, 3, numbers[1] > 300 ? 1 : 2);
                    return parts;
                }
                parts.add(numbers);
            }
            at = matcher.end();
        }
        return parts;
    }

    private static void blame(int[] faulty, int position, int reason, int cause) {
        faulty[0] = position;
        faulty[1] = reason;
        faulty[2] = cause;
    }

    /** The longest beginning that some part could begin with: a beginning that matches, or would need more. */
    private static int breaksOffAt(String rest) {
        int longest = 0;
        for (int length = 1; length <= rest.length(); length++) {
            Matcher matcher = PART.matcher(rest.substring(0, length));
            if (matcher.matches() || matcher.hitEnd()) {
                longest = length;
            }
        }
        return longest;
    }

    int fault(int what) {
        if (what < 0 || what > 2) {
            return Check.INVALID;
        }
        int[] faulty = {Check.NOT_FOUND, Check.NOT_FOUND, Check.NOT_FOUND};
        parts(faulty);
        return faulty[what];
    }

    int play() {
        int[] faulty = {-1, -1, -1};
        List<int[]> parts = parts(faulty);
        if (faulty[0] >= 0) {
            return Check.NOT_POSSIBLE;
        }
        State next = now.copy();
        for (int[] part : parts) {
            if (part.length == 1) {
                take(next, part[0]);
            } else {
                next.shares[part[0]] = new int[] {part[1], part[2]};
            }
        }
        if (next.handOvers.size() > 999) {
            return Check.LIMIT;
        }
        remember();
        now = next;
        return parts.size();
    }
}
