/** Promises 4 (source) and 5 (silence). */
public final class SourceTest {
    public static void main(String[] args) {
        sourcesAreNumbered();
        sourceRefusesInOrder();
        refusedSourcesChangeNothing();
        wavesAreSquare();
        wavesOfAnOddPeriod();
        wavesAreDelayedByBearing();
        wavesAreHeldBackByLag();
        wavesOfTimesBelowAndFarAbove0();
        delaysAreRoundedDownForAllBearings();
        eachSourceIsDelayedForItsOwnBearing();
        wavesAreTurnedByGainAllTogether();
        theLoudestSamples();
        silenceTakesAllAway();
        silenceFreesAllPlaces();
        Check.end();
    }

    private static void sourcesAreNumbered() {
        Beamrow row = new Beamrow();
        Check.due("source with the least", 0, row.source(-4, 1, 2));
        Check.due("source with the most", 1, row.source(4, 100, 16));
        Check.due("a third source", 2, row.source(4, 100, 16));
        Check.due("a fourth source", 3, row.source(0, 50, 3));
        Check.dueThrow("a fifth source", Check.STATE, () -> row.source(0, 50, 3));
        Check.due("silence of four", 4, row.silence());
    }

    private static void sourceRefusesInOrder() {
        Beamrow row = new Beamrow();
        int[][] noBearing = {{-5, 1, 2}, {5, 1, 2}, {5, 0, 2}, {5, 1, 1}, {Integer.MIN_VALUE, 0, 0},
            {Integer.MAX_VALUE, 0, 0}};
        int[][] outOfRange = {{0, 0, 2}, {0, 101, 2}, {0, 1, 1}, {0, 1, 17}, {4, -1, -1},
            {0, Integer.MIN_VALUE, 2}, {0, 1, Integer.MAX_VALUE}};
        for (int filled = 0; filled <= 4; filled++) {
            for (int[] one : noBearing) {
                Check.dueThrow("source of no bearing", Check.INDEX, () -> row.source(one[0], one[1], one[2]));
            }
            for (int[] one : outOfRange) {
                Check.dueThrow("source out of range", Check.ARGUMENT, () -> row.source(one[0], one[1], one[2]));
            }
            if (filled < 4) {
                Check.due("source behind refused ones", filled, row.source(0, 1, 2));
            }
        }
        Check.dueThrow("source of too many", Check.STATE, () -> row.source(0, 1, 2));
    }

    private static void refusedSourcesChangeNothing() {
        Beamrow row = new Beamrow();
        row.element(0, 64, 0);
        row.source(0, 10, 2);
        Check.dueThrow("source of no bearing", Check.INDEX, () -> row.source(5, 1, 2));
        Check.dueThrow("source without strength", Check.ARGUMENT, () -> row.source(0, 0, 2));
        row.source(0, 1, 2);
        row.source(0, 1, 2);
        row.source(0, 1, 2);
        Check.dueThrow("source of too many", Check.STATE, () -> row.source(0, 90, 2));
        row.hear(1);
        Check.due("sample of four sources", 13, row.sample(0, 0));
    }

    /** Hears so many ticks of one source, and holds the samples against what is due. */
    private static void dueSamples(String what, int[] element, int[] source, int... want) {
        Beamrow row = new Beamrow();
        row.element(element[0], element[1], element[2]);
        row.source(source[0], source[1], source[2]);
        row.hear(want.length);
        for (int tick = 0; tick < want.length; tick++) {
            Check.due(what + ", tick " + tick, want[tick], row.sample(0, want.length - 1 - tick));
        }
    }

    private static void wavesAreSquare() {
        dueSamples("period 2", new int[] {0, 64, 0}, new int[] {0, 7, 2}, 7, -7, 7, -7);
        dueSamples("period 4", new int[] {0, 64, 0}, new int[] {0, 7, 4}, 7, 7, -7, -7, 7);
    }

    private static void wavesOfAnOddPeriod() {
        dueSamples("period 3", new int[] {0, 64, 0}, new int[] {0, 7, 3}, 7, -7, -7, 7);
        dueSamples("period 5", new int[] {0, 64, 0}, new int[] {0, 7, 5}, 7, 7, -7, -7, -7, 7);
    }

    private static void wavesAreDelayedByBearing() {
        dueSamples("delay 1", new int[] {4, 64, 0}, new int[] {1, 5, 8}, -5, 5, 5, 5, 5, -5, -5, -5, -5, 5);
        dueSamples("delay 0 of 3 quarters", new int[] {3, 64, 0}, new int[] {1, 5, 8}, 5, 5, 5, 5, -5);
        dueSamples("delay -1 of 3 quarters below 0", new int[] {3, 64, 0}, new int[] {-1, 5, 8}, 5, 5, 5, -5);
        dueSamples("delay 12", new int[] {12, 64, 0}, new int[] {4, 5, 16}, 5, 5, 5, 5, -5);
        dueSamples("delay -12", new int[] {12, 64, 0}, new int[] {-4, 5, 16}, -5, -5, -5, -5, 5);
    }

    private static void wavesAreHeldBackByLag() {
        dueSamples("lag 3", new int[] {0, 64, 3}, new int[] {0, 5, 8}, -5, -5, -5, 5, 5, 5, 5, -5);
        dueSamples("lag -3", new int[] {0, 64, -3}, new int[] {0, 5, 8}, 5, -5, -5, -5, -5, 5);
    }

    private static void wavesAreTurnedByGainAllTogether() {
        dueSamples("gain 33 rounds down", new int[] {0, 33, 0}, new int[] {0, 1, 2}, 0, -1, 0, -1);
        dueSamples("gain 96", new int[] {0, 96, 0}, new int[] {0, 3, 2}, 4, -5);
        Beamrow row = new Beamrow();
        row.element(0, 96, 0);
        row.source(0, 1, 2);
        row.source(0, 1, 2);
        row.hear(2);
        Check.due("two of 1 by 96 64ths", 3, row.sample(0, 1));
        Check.due("two of -1 by 96 64ths", -3, row.sample(0, 0));
    }

    private static void silenceTakesAllAway() {
        Beamrow row = new Beamrow();
        row.element(0, 64, 0);
        row.source(0, 10, 2);
        row.source(0, 20, 2);
        row.hear(1);
        Check.due("silence of two", 2, row.silence());
        Check.due("silence of none", 0, row.silence());
        Check.due("what was heard stays", 30, row.sample(0, 0));
        row.hear(1);
        Check.due("sample in silence", 0, row.sample(0, 0));
        Check.due("sources are numbered from 0 again", 0, row.source(0, 3, 2));
        row.hear(1);
        Check.due("only the new source is heard", 3, row.sample(0, 0));
    }

    /** By its delay and its lag an element hears at a tick what is of a time so much later. */
    private static void dueWaves(int period, int bearing, int lag, int later) {
        Beamrow row = new Beamrow();
        row.element(12, 64, lag);
        row.source(bearing, 5, period);
        row.hear(48);
        for (int tick = 0; tick < 48; tick++) {
            int remainder = tick + later;
            while (remainder < 0) {
                remainder += period;
            }
            while (remainder >= period) {
                remainder -= period;
            }
            Check.due("period " + period + " at time " + (tick + later), remainder < period / 2 ? 5 : -5,
                    row.sample(0, 47 - tick));
        }
    }

    private static void wavesOfTimesBelowAndFarAbove0() {
        for (int period = 2; period <= 16; period++) {
            dueWaves(period, 4, 3, -15);
            dueWaves(period, 0, 1, -1);
            dueWaves(period, -4, -3, 15);
        }
    }

    private static void delaysAreRoundedDownForAllBearings() {
        for (int position = 0; position <= 12; position++) {
            for (int bearing = -4; bearing <= 4; bearing++) {
                // Delays of -12 to 12 alike by one of these periods are not alike by the other.
                for (int period : new int[] {15, 16}) {
                    Beamrow row = new Beamrow();
                    row.element(position, 64, 0);
                    row.source(bearing, 5, period);
                    row.hear(32);
                    for (int tick = 0; tick < 32; tick++) {
                        int remainder = (tick - Sounds.delay(position, bearing) + 2 * period) % period;
                        Check.due("position " + position + ", bearing " + bearing + ", tick " + tick,
                                remainder < period / 2 ? 5 : -5, row.sample(0, 31 - tick));
                    }
                }
            }
        }
    }

    private static void eachSourceIsDelayedForItsOwnBearing() {
        Beamrow row = new Beamrow();
        row.element(12, 64, 0);
        row.source(4, 1, 16);
        row.source(-4, 10, 16);
        row.source(0, 100, 16);
        row.hear(5);
        // At tick 0 their times are -12, 12 and 0; at tick 4 they are -8, 16 and 4.
        Check.due("tick 0", 1 - 10 + 100, row.sample(0, 4));
        Check.due("tick 4", -1 + 10 + 100, row.sample(0, 0));
    }

    private static void theLoudestSamples() {
        Beamrow row = new Beamrow();
        row.element(0, 96, 0);
        row.element(0, 32, 0);
        for (int i = 0; i < 4; i++) {
            row.source(0, 100, 2);
        }
        row.hear(2);
        Check.due("four of 100 by 96 64ths", 600, row.sample(0, 1));
        Check.due("four of -100 by 96 64ths", -600, row.sample(0, 0));
        Check.due("four of 100 by 32 64ths", 200, row.sample(1, 1));
        Check.due("four of -100 by 32 64ths", -200, row.sample(1, 0));
    }

    private static void silenceFreesAllPlaces() {
        Beamrow row = new Beamrow();
        for (int round = 0; round < 3; round++) {
            for (int i = 0; i < 4; i++) {
                Check.due("source of a round", i, row.source(0, 1, 2));
            }
            Check.dueThrow("a fifth source of a round", Check.STATE, () -> row.source(0, 1, 2));
            Check.due("silence of a round", 4, row.silence());
        }
        Check.due("silence of none", 0, row.silence());
    }
}
