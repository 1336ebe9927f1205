import java.util.Arrays;

/** Delays, and sounds for elements of gain 64 and lag 0: single ticks in which one hears so much. */
final class Sounds {
    /** In place of an element's number: all elements hear it. */
    static final int ALL = -1;

    private static final int LOUDEST = 100;

    private Sounds() {
    }

    /** The greatest delay that is, four times, not above the position times the bearing. */
    static int delay(int position, int bearing) {
        int delay = -12;
        while (4 * (delay + 1) <= position * bearing) {
            delay++;
        }
        return delay;
    }

    /** Nothing is heard until so many ticks have gone by. */
    static void quietUntil(Beamrow row, int ticks) {
        for (int left = ticks - row.tick(); left > 0; left -= 100) {
            row.hear(Math.min(left, 100));
        }
    }

    /** One tick in which all that live hear so much; -400 to 400. */
    static void pulse(Beamrow row, int heard) {
        int period = periodOf(row.tick(), heard > 0);
        for (int left = Math.abs(heard); left > 0; left -= LOUDEST) {
            row.source(0, Math.min(left, LOUDEST), period);
        }
        row.hear(1);
        row.silence();
    }

    /**
     * Hears until so many ticks have gone by. A pulse is {tick, element, heard}: that element alone
     * hears it, those of one tick alike; the others get the 0 of a dead element. All live in the end.
     */
    static void play(Beamrow row, int elements, int ticks, int[]... pulses) {
        int[][] inOrder = pulses.clone();
        Arrays.sort(inOrder, (one, other) -> Integer.compare(one[0], other[0]));
        int done = -1;
        for (int[] pulse : inOrder) {
            if (pulse[0] != done) {
                quietUntil(row, pulse[0]);
                for (int element = 0; element < elements; element++) {
                    row.alive(element, hears(pulses, pulse[0], element));
                }
                pulse(row, pulse[2]);
                done = pulse[0];
            }
        }
        quietUntil(row, ticks);
        for (int element = 0; element < elements; element++) {
            row.alive(element, true);
        }
    }

    private static boolean hears(int[][] pulses, int tick, int element) {
        for (int[] pulse : pulses) {
            if (pulse[0] == tick && (pulse[1] == element || pulse[1] == ALL)) {
                return true;
            }
        }
        return false;
    }

    /** A period whose wave is above 0, or below, at a tick. */
    private static int periodOf(int tick, boolean isAbove) {
        for (int period = 2; period <= 16; period++) {
            if ((tick % period < period / 2) == isAbove) {
                return period;
            }
        }
        throw new IllegalStateException("no such period");
    }
}
