import java.util.ArrayList;
import java.util.HashMap;
import java.util.List;
import java.util.Map;

/**
 * All promises in long runs: a model that keeps every sample by its tick, written as plainly as the
 * document is, answers the same calls, right and wrong ones mixed, and both must agree.
 */
public final class ModelTest {
    private static final int RUNS = 48;
    private static final int CALLS = 512;

    public static void main(String[] args) {
        for (int run = 0; run < RUNS; run++) {
            oneRun(run);
        }
        Check.end();
    }

    private static void oneRun(int run) {
        Chance chance = new Chance(run);
        Beamrow row = new Beamrow();
        Model model = new Model();
        for (int call = 0; call < CALLS; call++) {
            int kind = chance.upTo(40);
            int[] a = {chance.argument(kind, 0), chance.argument(kind, 1), chance.argument(kind, 2)};
            String what = "run " + run + ", call " + call + ", " + name(kind) + "(" + a[0] + ", " + a[1] + ", "
                    + a[2] + ")";
            Check.due(what, outcome(() -> ask(model, kind, a)), outcome(() -> ask(row, kind, a)));
        }
    }

    /** An answer, or a number for what was thrown that no call can answer. */
    private static long outcome(Check.Call call) {
        try {
            return call.answer();
        } catch (RuntimeException e) {
            Class<?> kind = e.getClass();
            return Long.MIN_VALUE + (kind == IndexOutOfBoundsException.class ? 1
                    : kind == IllegalArgumentException.class ? 2
                    : kind == IllegalStateException.class ? 3 : 4);
        }
    }

    /** Which call a drawn kind is: those that ask much are rarer. */
    private static String name(int kind) {
        String[] names = {"element", "element", "element", "alive", "alive", "source", "source", "source",
            "silence", "noise", "hear", "hear", "hear", "hear", "hear", "window", "window", "calibrate",
            "calibrate", "sample", "sample", "sample", "sum", "sum", "sum", "power", "power", "powerAnew",
            "powerAnew", "peaks", "peaks", "found", "found", "found", "calibrated", "calibrated",
            "calibrated", "tick", "sample", "sum"};
        return names[kind];
    }

    private static long ask(Beamrow row, int kind, int[] a) {
        switch (name(kind)) {
            case "element": return row.element(a[0], a[1], a[2]);
            case "alive": return row.alive(a[0], a[1] != 0) ? 1 : 0;
            case "source": return row.source(a[0], a[1], a[2]);
            case "silence": return row.silence();
            case "noise": return row.noise(a[0], a[1]);
            case "hear": return row.hear(a[0]);
            case "window": return row.window(a[0]);
            case "calibrate": return row.calibrate(a[0]);
            case "sample": return row.sample(a[0], a[1]);
            case "sum": return row.sum(a[0], a[1]);
            case "power": return row.power(a[0]);
            case "powerAnew": return row.powerAnew(a[0]);
            case "peaks": return row.peaks(a[0]);
            case "found": return row.found(a[0]);
            case "calibrated": return row.calibrated(a[0], a[1] != 0);
            default: return row.tick();
        }
    }

    private static long ask(Model model, int kind, int[] a) {
        switch (name(kind)) {
            case "element": return model.element(a[0], a[1], a[2]);
            case "alive": return model.alive(a[0], a[1] != 0);
            case "source": return model.source(a[0], a[1], a[2]);
            case "silence": return model.silence();
            case "noise": return model.noise(a[0], a[1]);
            case "hear": return model.hear(a[0]);
            case "window": return model.window(a[0]);
            case "calibrate": return model.calibrate(a[0]);
            case "sample": return model.sample(a[0], a[1]);
            case "sum": return model.sum(a[0], a[1]);
            case "power": case "powerAnew": return model.power(a[0]);
            case "peaks": return model.peaks(a[0]);
            case "found": return model.found(a[0]);
            case "calibrated": return model.calibrated(a[0], a[1] != 0);
            default: return model.next;
        }
    }

    /** Numbers that look like chance but are the same in each run of the tests. */
    private static final class Chance {
        private long state;
        private final boolean isLoud;

        Chance(int seed) {
            state = 88172645463325252L + 7919L * seed;
            isLoud = seed % 3 == 0;
        }

        int upTo(int bound) {
            state = state * 6364136223846793005L + 1442695040888963407L;
            return (int) Long.remainderUnsigned(state >>> 20, bound);
        }

        int between(int least, int most) {
            // Now and then one beside the range, or far off it.
            int odd = upTo(60);
            if (odd == 0) {
                return least - 1;
            }
            if (odd == 1) {
                return most + 1;
            }
            if (odd == 2) {
                return upTo(2) == 0 ? Integer.MIN_VALUE : Integer.MAX_VALUE;
            }
            if (odd < 8) {
                return odd < 5 ? least : most;
            }
            return least + upTo(most - least + 1);
        }

        int argument(int kind, int place) {
            switch (name(kind) + place) {
                case "element0": return between(0, 12);
                case "element1": return between(32, 96);
                case "element2": return between(-3, 3);
                case "alive0": case "sample0": case "calibrated0": return between(0, 5);
                case "alive1": case "calibrated1": return upTo(2);
                case "source0": case "calibrate0": case "power0": case "powerAnew0": case "sum0":
                    return between(-4, 4);
                case "source1": return between(1, isLoud ? 100 : 12);
                case "source2": return between(2, 16);
                case "noise0": return between(0, isLoud ? 50 : 3);
                case "noise1": return between(1, 65536);
                case "hear0": return upTo(2) == 0 ? between(1, 100) : between(1, 12);
                case "window0": return between(0, 2);
                case "sample1": return between(0, 63);
                case "sum1": return between(16, 47);
                case "peaks0": return between(1, 100);
                case "found0": return between(0, 5);
                default: return 0;
            }
        }
    }

    /** The document's words, with every sample ever kept by its tick. */
    private static final class Model {
        private final List<int[]> elements = new ArrayList<>();
        private final List<int[]> calibrations = new ArrayList<>();
        private final List<Boolean> alive = new ArrayList<>();
        private final List<Map<Integer, Long>> samples = new ArrayList<>();
        private List<int[]> sources = new ArrayList<>();
        private int next;
        private int loudness;
        private int number = 1;
        private int window;

        private static void index(boolean isRight) {
            if (!isRight) {
                throw new IndexOutOfBoundsException();
            }
        }

        private static void argument(boolean isRight) {
            if (!isRight) {
                throw new IllegalArgumentException();
            }
        }

        private static void state(boolean isRight) {
            if (!isRight) {
                throw new IllegalStateException();
            }
        }

        private static void bearing(int bearing) {
            index(bearing >= -4 && bearing <= 4);
        }

        private static long down(long over, long under) {
            long quotient = over / under;
            return quotient * under > over ? quotient - 1 : quotient;
        }

        long element(int position, int gain, int lag) {
            argument(position >= 0 && position <= 12 && gain >= 32 && gain <= 96 && lag >= -3 && lag <= 3);
            state(elements.size() < 8);
            elements.add(new int[] {position, gain, lag});
            calibrations.add(new int[] {64, 0});
            alive.add(true);
            samples.add(new HashMap<>());
            return elements.size() - 1;
        }

        long alive(int element, boolean is) {
            index(element >= 0 && element < elements.size());
            return alive.set(element, is) ? 1 : 0;
        }

        long source(int bearing, int strength, int period) {
            bearing(bearing);
            argument(strength >= 1 && strength <= 100 && period >= 2 && period <= 16);
            state(sources.size() < 4);
            sources.add(new int[] {bearing, strength, period});
            return sources.size() - 1;
        }

        long silence() {
            long were = sources.size();
            sources = new ArrayList<>();
            return were;
        }

        long noise(int newLoudness, int newNumber) {
            argument(newLoudness >= 0 && newLoudness <= 50 && newNumber >= 1 && newNumber <= 65536);
            long before = loudness;
            loudness = newLoudness;
            number = newNumber;
            return before;
        }

        long hear(int ticks) {
            argument(ticks >= 1 && ticks <= 100);
            for (int i = 0; i < ticks; i++) {
                for (int e = 0; e < elements.size(); e++) {
                    number = (75 * number + 74) % 65537;
                    long noise = number % (2 * loudness + 1) - loudness;
                    long waves = 0;
                    for (int[] source : sources) {
                        long time = next - delay(e, source[0]) - elements.get(e)[2];
                        long remainder = time - source[2] * down(time, source[2]);
                        waves += remainder < source[2] / 2 ? source[1] : -source[1];
                    }
                    long sample = down(waves * elements.get(e)[1], 64) + noise;
                    samples.get(e).put(next, alive.get(e) ? sample : 0);
                    samples.get(e).remove(next - 64);
                }
                next++;
            }
            return next;
        }

        private long delay(int element, int bearing) {
            return down(elements.get(element)[0] * bearing, 4);
        }

        long window(int newWindow) {
            argument(newWindow >= 0 && newWindow <= 2);
            long before = window;
            window = newWindow;
            return before;
        }

        private long kept(List<Map<Integer, Long>> from, int element, long tick) {
            return from.get(element).getOrDefault((int) tick, 0L);
        }

        private List<Integer> living() {
            List<Integer> living = new ArrayList<>();
            for (int e = 0; e < elements.size(); e++) {
                if (alive.get(e)) {
                    living.add(e);
                }
            }
            return living;
        }

        private long agreement(int one, int lowest, int bearing, int lag) {
            long agreement = 0;
            for (int time = next - 1 - 47; time <= next - 1 - 16; time++) {
                agreement += kept(samples, one, time + delay(one, bearing) + lag)
                        * kept(samples, lowest, time + delay(lowest, bearing));
            }
            return agreement;
        }

        long calibrate(int bearing) {
            bearing(bearing);
            state(!living().isEmpty());
            int lowest = living().get(0);
            long squares = agreement(lowest, lowest, bearing, 0);
            state(squares != 0);
            long changed = 0;
            for (int one : living()) {
                int bestLag = -3;
                for (int lag = -3; lag <= 3; lag++) {
                    if (agreement(one, lowest, bearing, lag) > agreement(one, lowest, bearing, bestLag)) {
                        bestLag = lag;
                    }
                }
                long gain = down(64 * agreement(one, lowest, bearing, bestLag), squares);
                int[] now = {gain < 16 ? 16 : gain > 255 ? 255 : (int) gain, bestLag};
                if (one == lowest) {
                    now = new int[] {64, 0};
                }
                int[] before = calibrations.set(one, now);
                changed += before[0] != now[0] || before[1] != now[1] ? 1 : 0;
            }
            return changed;
        }

        long sample(int element, int back) {
            index(element >= 0 && element < elements.size() && back >= 0 && back <= 63);
            return kept(samples, element, next - 1 - back);
        }

        private long weight(int element) {
            int place = living().indexOf(element);
            int last = living().size() - 1;
            if (window == Beamrow.TENT) {
                return 1 + Math.min(place, last - place);
            }
            return window == Beamrow.ENDS && (place == 0 || place == last) ? 3 : 1;
        }

        private long tickTold(int element, int bearing, int time) {
            return time + delay(element, bearing) + calibrations.get(element)[1];
        }

        private long sumOf(List<Map<Integer, Long>> from, int bearing, int time) {
            long sum = 0;
            for (int e : living()) {
                long told = down(kept(from, e, tickTold(e, bearing, time)) * 64, calibrations.get(e)[0]);
                sum += told * weight(e);
            }
            return sum;
        }

        private long powerOf(List<Map<Integer, Long>> from, int bearing) {
            long power = 0;
            for (int time = next - 1 - 47; time <= next - 1 - 16; time++) {
                power += sumOf(from, bearing, time) * sumOf(from, bearing, time);
            }
            return power;
        }

        long sum(int bearing, int back) {
            bearing(bearing);
            index(back >= 16 && back <= 47);
            return sumOf(samples, bearing, next - 1 - back);
        }

        long power(int bearing) {
            bearing(bearing);
            return powerOf(samples, bearing);
        }

        long peaks(int hundredths) {
            argument(hundredths >= 1 && hundredths <= 100);
            Map<Integer, Long> powers = new HashMap<>();
            long greatest = 0;
            for (int bearing = -4; bearing <= 4; bearing++) {
                powers.put(bearing, powerOf(samples, bearing));
                greatest = Math.max(greatest, powers.get(bearing));
            }
            long peaks = 0;
            for (int bearing = -4; bearing <= 4; bearing++) {
                long power = powers.get(bearing);
                boolean isPeak = power > 0 && (bearing == -4 || power > powers.get(bearing - 1))
                        && (bearing == 4 || power > powers.get(bearing + 1));
                peaks += isPeak && 100 * power >= greatest * hundredths ? 1 : 0;
            }
            return peaks;
        }

        long found(int place) {
            index(place >= 0 && place <= 5);
            List<Map<Integer, Long>> left = copy(samples);
            for (int i = 0; ; i++) {
                int best = -4;
                for (int bearing = -3; bearing <= 4; bearing++) {
                    best = powerOf(left, bearing) > powerOf(left, best) ? bearing : best;
                }
                if (powerOf(left, best) == 0) {
                    return Beamrow.NONE;
                }
                if (i == place) {
                    return best;
                }
                left = without(left, best);
            }
        }

        private List<Map<Integer, Long>> without(List<Map<Integer, Long>> before, int bearing) {
            List<Map<Integer, Long>> after = copy(before);
            long weights = 0;
            for (int e : living()) {
                weights += weight(e);
            }
            for (int time = next - 1 - 47; time <= next - 1 - 16; time++) {
                long mean = down(sumOf(before, bearing, time), weights);
                for (int e : living()) {
                    after.get(e).computeIfPresent((int) tickTold(e, bearing, time), (tick, was) -> was - mean);
                }
            }
            return after;
        }

        private static List<Map<Integer, Long>> copy(List<Map<Integer, Long>> from) {
            List<Map<Integer, Long>> copy = new ArrayList<>();
            for (Map<Integer, Long> one : from) {
                copy.add(new HashMap<>(one));
            }
            return copy;
        }

        long calibrated(int element, boolean isLag) {
            index(element >= 0 && element < elements.size());
            return calibrations.get(element)[isLag ? 1 : 0];
        }
    }
}
