/** Promises 8 (window), 11 (sum), 12 (power) and 13 (powerAnew). */
public final class SteeringTest {
    public static void main(String[] args) {
        windowTellsTheOneBefore();
        windowRefusesWhatIsOutOfRange();
        windowsWeighByPlaceAmongTheLiving();
        sumsOfATime();
        sumsAreSteeredByDelays();
        sumsAreSteeredForAllBearings();
        sumsUseWhatIsKnownByCalibration();
        gainsByCalibrationAtTheirBounds();
        theFarthestTicksAreTold();
        ticksBelow0AreToldAs0();
        ticksAheadOfAnElementsComingAreToldAs0();
        deadElementsTellNothing();
        sumRefusesWhatIsNotThere();
        powersAreSquaresOf32Times();
        powersAreAboveAnInt();
        theGreatestPowers();
        powersRefuseNoBearing();
        powersWithoutLivingElementsAre0();
        powersLookAtThe32TimesAlone();
        Check.end();
    }

    private static void windowTellsTheOneBefore() {
        Beamrow row = new Beamrow();
        Check.due("window at first", Beamrow.BOX, row.window(Beamrow.TENT));
        Check.due("window then", Beamrow.TENT, row.window(Beamrow.ENDS));
        Check.due("window then", Beamrow.ENDS, row.window(Beamrow.BOX));
        Check.due("window then", Beamrow.BOX, row.window(Beamrow.BOX));
    }

    private static void windowRefusesWhatIsOutOfRange() {
        Beamrow row = new Beamrow();
        row.window(Beamrow.TENT);
        for (int window : new int[] {-1, 3, Integer.MIN_VALUE, Integer.MAX_VALUE}) {
            Check.dueThrow("window out of range", Check.ARGUMENT, () -> row.window(window));
        }
        Check.due("the window stands", Beamrow.TENT, row.window(Beamrow.BOX));
    }

    /** The weight of each element, found by letting it alone have a sample that is not 0. */
    private static void dueWeights(String what, int window, boolean[] living, int... want) {
        for (int heard = 0; heard < want.length; heard++) {
            Beamrow row = new Beamrow();
            for (int i = 0; i < want.length; i++) {
                row.element(0, 64, 0);
                row.alive(i, i == heard);
            }
            row.source(0, 7, 2);
            row.hear(64);
            for (int i = 0; i < want.length; i++) {
                row.alive(i, living[i]);
            }
            row.window(window);
            Check.due(what + ", element " + heard, 7L * want[heard], row.sum(0, 17));
            Check.due(what + ", power", 49L * 32 * want[heard] * want[heard], row.power(0));
            Check.due(what + ", powerAnew", 49L * 32 * want[heard] * want[heard], row.powerAnew(0));
        }
    }

    private static void windowsWeighByPlaceAmongTheLiving() {
        boolean[] one = {true};
        dueWeights("BOX of one", Beamrow.BOX, one, 1);
        dueWeights("TENT of one", Beamrow.TENT, one, 1);
        dueWeights("ENDS of one", Beamrow.ENDS, one, 3);
        boolean[] two = {true, true};
        dueWeights("TENT of two", Beamrow.TENT, two, 1, 1);
        dueWeights("ENDS of two", Beamrow.ENDS, two, 3, 3);
        boolean[] five = {true, true, true, true, true};
        dueWeights("BOX of five", Beamrow.BOX, five, 1, 1, 1, 1, 1);
        dueWeights("TENT of five", Beamrow.TENT, five, 1, 2, 3, 2, 1);
        dueWeights("ENDS of five", Beamrow.ENDS, five, 3, 1, 1, 1, 3);
        boolean[] eight = {true, true, true, true, true, true, true, true};
        dueWeights("TENT of eight", Beamrow.TENT, eight, 1, 2, 3, 4, 4, 3, 2, 1);
        dueWeights("ENDS of eight", Beamrow.ENDS, eight, 3, 1, 1, 1, 1, 1, 1, 3);
        boolean[] some = {false, true, false, true, true, false};
        dueWeights("BOX of some", Beamrow.BOX, some, 0, 1, 0, 1, 1, 0);
        dueWeights("TENT of some", Beamrow.TENT, some, 0, 1, 0, 2, 1, 0);
        dueWeights("ENDS of some", Beamrow.ENDS, some, 0, 3, 0, 1, 3, 0);
    }

    private static void sumsOfATime() {
        Beamrow row = new Beamrow();
        row.element(0, 64, 0);
        row.element(0, 96, 0);
        row.source(0, 8, 16);
        row.hear(64);
        for (int back = 16; back <= 47; back++) {
            Check.due("sum " + back + " back", (63 - back) % 16 < 8 ? 20 : -20, row.sum(0, back));
        }
    }

    private static void sumsAreSteeredByDelays() {
        Beamrow row = new Beamrow();
        row.element(0, 64, 0);
        row.element(3, 64, 0);
        row.source(0, 8, 16);
        row.hear(64);
        for (int back = 16; back <= 47; back++) {
            int time = 63 - back;
            int own = time % 16 < 8 ? 8 : -8;
            // 3 * 1 / 4 is 0, but 3 * -1 / 4 rounds down to -1; 3 * 4 / 4 is 3.
            Check.due("sum of bearing 1", 2 * own, row.sum(1, back));
            Check.due("sum of bearing -1", own + ((time - 1) % 16 < 8 ? 8 : -8), row.sum(-1, back));
            Check.due("sum of bearing 4", own + ((time + 3) % 16 < 8 ? 8 : -8), row.sum(4, back));
        }
    }

    private static void sumsUseWhatIsKnownByCalibration() {
        Beamrow row = new Beamrow();
        row.element(0, 64, 0);
        row.element(0, 48, 2);
        row.source(0, 9, 16);
        row.hear(64);
        row.calibrate(0);
        Check.due("lag by calibration", 2, row.calibrated(1, true));
        // Samples are 6 and -7: the mean of size is 6.5, so 64 * 6.5 / 9 is 46.2.
        Check.due("gain by calibration", 46, row.calibrated(1, false));
        for (int back = 16; back <= 47; back++) {
            boolean isAbove = (63 - back) % 16 < 8;
            Check.due("sum of both", isAbove ? 9 + 8 : -9 - 10, row.sum(0, back));
        }
    }

    private static void sumRefusesWhatIsNotThere() {
        Beamrow row = new Beamrow();
        int[][] wrong = {{-5, 16}, {5, 16}, {0, 15}, {0, 48}, {5, 48}, {Integer.MIN_VALUE, 16},
            {Integer.MAX_VALUE, 16}, {0, Integer.MIN_VALUE}, {0, Integer.MAX_VALUE}};
        for (int[] one : wrong) {
            Check.dueThrow("sum out of range", Check.INDEX, () -> row.sum(one[0], one[1]));
        }
        Check.due("sum in range", 0, row.sum(-4, 47));
        Check.due("sum in range", 0, row.sum(4, 16));
    }

    private static void powersAreSquaresOf32Times() {
        for (int window = Beamrow.BOX; window <= Beamrow.ENDS; window++) {
            Beamrow row = new Beamrow();
            row.element(0, 64, 0);
            row.element(5, 80, 1);
            row.element(12, 40, -2);
            row.source(2, 30, 7);
            row.source(-3, 11, 5);
            row.noise(20, 99);
            row.hear(100);
            row.calibrate(2);
            row.window(window);
            for (int bearing = -4; bearing <= 4; bearing++) {
                long squares = 0;
                for (int back = 16; back <= 47; back++) {
                    long sum = row.sum(bearing, back);
                    squares += sum * sum;
                }
                Check.due("power of " + bearing, squares, row.power(bearing));
                Check.due("powerAnew of " + bearing, squares, row.powerAnew(bearing));
            }
        }
    }

    private static void powersRefuseNoBearing() {
        Beamrow row = new Beamrow();
        for (int bearing : new int[] {-5, 5, Integer.MIN_VALUE, Integer.MAX_VALUE}) {
            Check.dueThrow("power of no bearing", Check.INDEX, () -> row.power(bearing));
            Check.dueThrow("powerAnew of no bearing", Check.INDEX, () -> row.powerAnew(bearing));
        }
    }

    private static void powersWithoutLivingElementsAre0() {
        Beamrow row = new Beamrow();
        row.element(0, 64, 0);
        row.source(0, 9, 2);
        row.hear(64);
        Check.due("power of one", 32 * 81, row.power(0));
        row.alive(0, false);
        for (int window = Beamrow.BOX; window <= Beamrow.ENDS; window++) {
            row.window(window);
            Check.due("power of none", 0, row.power(0));
            Check.due("powerAnew of none", 0, row.powerAnew(0));
            Check.due("sum of none", 0, row.sum(0, 16));
        }
        row.alive(0, true);
        row.window(Beamrow.BOX);
        Check.due("powerAnew of one", 32 * 81, row.powerAnew(0));
    }

    private static void powersLookAtThe32TimesAlone() {
        Beamrow row = new Beamrow();
        row.element(0, 64, 0);
        row.source(0, 9, 2);
        row.hear(1);
        row.silence();
        for (int back = 0; back < 64; back++) {
            boolean isSeen = back >= 16 && back <= 47;
            Check.due("power with a sample " + back + " back", isSeen ? 81 : 0, row.power(0));
            Check.due("powerAnew with a sample " + back + " back", isSeen ? 81 : 0, row.powerAnew(0));
            if (isSeen) {
                Check.due("sum of that sample", 9, row.sum(0, back));
            }
            row.hear(1);
        }
    }

    private static void sumsAreSteeredForAllBearings() {
        for (int position = 0; position <= 12; position++) {
            Beamrow row = new Beamrow();
            row.element(position, 64, 0);
            Sounds.play(row, 1, 64, new int[] {31, 0, 9});
            for (int bearing = -4; bearing <= 4; bearing++) {
                int told = 63 - 31 + Sounds.delay(position, bearing);
                for (int back = 16; back <= 47; back++) {
                    Check.due("position " + position + ", bearing " + bearing + ", back " + back,
                            back == told ? 9 : 0, row.sum(bearing, back));
                }
            }
        }
    }

    /** Two elements at one place; by calibration the second has a lag of 1 and this gain. */
    private static Beamrow calibratedTo(int gain) {
        Beamrow row = new Beamrow();
        row.element(0, 64, 0);
        row.element(0, 64, 0);
        Sounds.play(row, 2, 40, new int[] {10, 0, 64}, new int[] {11, 1, gain});
        row.calibrate(0);
        Check.due("gain by calibration", gain, row.calibrated(1, false));
        Check.due("lag by calibration", 1, row.calibrated(1, true));
        return row;
    }

    private static void dueToldByGain(int gain, int above, int below) {
        Beamrow row = calibratedTo(gain);
        Sounds.play(row, 2, 100, new int[] {60, 1, 100}, new int[] {61, 1, -100});
        Check.due("100 told by a gain of " + gain, above, row.sum(0, 99 - 59));
        Check.due("-100 told by a gain of " + gain, below, row.sum(0, 99 - 60));
        long squares = (long) above * above + (long) below * below;
        Check.due("power by a gain of " + gain, squares, row.power(0));
        Check.due("powerAnew by a gain of " + gain, squares, row.powerAnew(0));
    }

    private static void gainsByCalibrationAtTheirBounds() {
        dueToldByGain(16, 400, -400);
        dueToldByGain(17, 376, -377);
        dueToldByGain(63, 101, -102);
        dueToldByGain(64, 100, -100);
        dueToldByGain(65, 98, -99);
        dueToldByGain(255, 25, -26);
    }

    private static void dueToldAt(Beamrow row, String what, int bearing, int back, int want) {
        Check.due(what + ": sum", want, row.sum(bearing, back));
        Check.due(what + ": power", want * want, row.power(bearing));
        Check.due(what + ": powerAnew", want * want, row.powerAnew(bearing));
    }

    private static void theFarthestTicksAreTold() {
        for (int lag = -3; lag <= 3; lag += 6) {
            Beamrow row = new Beamrow();
            row.element(0, 64, 0);
            row.element(12, 64, 0);
            Sounds.play(row, 2, 40, new int[] {13, 0, 5}, new int[] {13 + lag, 1, 5});
            row.calibrate(0);
            Check.due("lag by calibration", lag, row.calibrated(1, true));
            if (lag < 0) {
                // Less 47 for the time, 12 for the delay and 3 for the lag: 62 behind the latest tick.
                Sounds.play(row, 2, 112, new int[] {50, 1, 7});
                dueToldAt(row, "61 behind", -4, 46, 7);
                row.hear(1);
                dueToldAt(row, "62 behind", -4, 47, 7);
                row.hear(1);
                dueToldAt(row, "63 behind", -4, 47, 0);
                Check.due("63 behind it is kept yet", 7, row.sample(1, 63));
            } else {
                // Less 16 for the time, and 12 for the delay and 3 for the lag: 1 behind the latest tick.
                Sounds.play(row, 2, 113, new int[] {112, 1, 7});
                dueToldAt(row, "the latest", 4, 16, 0);
                row.hear(1);
                dueToldAt(row, "1 behind", 4, 16, 7);
                row.hear(1);
                dueToldAt(row, "2 behind", 4, 17, 7);
            }
        }
    }

    private static void ticksBelow0AreToldAs0() {
        Beamrow row = new Beamrow();
        row.element(4, 64, 0);
        dueToldAt(row, "ahead of all ticks", 4, 16, 0);
        row.source(0, 5, 16);
        row.hear(12);
        dueToldAt(row, "the latest of the times is -5", 4, 16, 0);
        row.hear(1);
        dueToldAt(row, "a time of -4 by a delay of 4", 4, 16, 5);
        dueToldAt(row, "a time of -4 by a delay of 3", 3, 16, 0);
        row.hear(3);
        dueToldAt(row, "a time of -1 by a delay of 1", 1, 16, 5);
        dueToldAt(row, "a time of -1", 0, 16, 0);
        row.hear(1);
        dueToldAt(row, "a time of 0", 0, 16, 5);
        dueToldAt(row, "a time of 0 by a delay of -1", -1, 16, 0);
        Check.due("power of four ticks and one", 5 * 25, row.power(4));
        // Waves above 0 and below it have the same squares.
        row.hear(30);
        Check.due("power of 31 times", 31 * 25, row.power(0));
        Check.due("sum of the time -1", 0, row.sum(0, 47));
        row.hear(1);
        Check.due("power of 32 times", 32 * 25, row.power(0));
        Check.due("sum of the time 0", 5, row.sum(0, 47));
        Check.due("power of 31 times by a delay of -1", 31 * 25, row.power(-1));
    }

    private static void ticksAheadOfAnElementsComingAreToldAs0() {
        Beamrow row = new Beamrow();
        row.source(0, 5, 16);
        row.hear(80);
        row.element(4, 64, 0);
        dueToldAt(row, "just put up", 4, 16, 0);
        row.hear(13);
        dueToldAt(row, "its first tick by a delay of 4", 4, 16, 5);
        dueToldAt(row, "ahead of it by a delay of 3", 3, 16, 0);
        row.hear(4);
        dueToldAt(row, "its first tick", 0, 16, 5);
        dueToldAt(row, "ahead of it by a delay of -1", -1, 16, 0);
    }

    private static void deadElementsTellNothing() {
        Beamrow row = new Beamrow();
        row.element(0, 64, 0);
        row.element(0, 96, 0);
        row.source(0, 8, 2);
        row.hear(64);
        row.alive(0, false);
        Check.due("sum without the first", 12, row.sum(0, 17));
        Check.due("power without the first", 32 * 144, row.power(0));
        Check.due("powerAnew without the first", 32 * 144, row.powerAnew(0));
        row.alive(0, true);
        row.alive(1, false);
        Check.due("sum without the last", 8, row.sum(0, 17));
        row.hear(1);
        row.alive(1, true);
        row.hear(16);
        Check.due("sum of a tick at which one was dead", 8, row.sum(0, 16));
        Check.due("sum of a tick at which both lived", -20, row.sum(0, 17));
    }

    private static void powersAreAboveAnInt() {
        Beamrow row = new Beamrow();
        for (int i = 0; i < 8; i++) {
            row.element(0, 96, 0);
        }
        for (int i = 0; i < 4; i++) {
            row.source(0, 100, 16);
        }
        row.hear(64);
        row.window(Beamrow.TENT);
        Check.due("sum of eight by TENT", 20 * 600, row.sum(0, 47));
        Check.due("power of eight by TENT", 32L * 12000 * 12000, row.power(0));
        Check.due("powerAnew of eight by TENT", 32L * 12000 * 12000, row.powerAnew(0));
        row.window(Beamrow.BOX);
        Check.due("power of eight by BOX", 32L * 4800 * 4800, row.power(0));
    }

    private static void theGreatestPowers() {
        Beamrow row = new Beamrow();
        for (int i = 0; i < 8; i++) {
            row.element(0, 96, 0);
        }
        // The others do not agree at all with the first: by calibration they have 16 and -3.
        Sounds.play(row, 8, 64, new int[] {31, 0, 64});
        Check.due("changed", 7, row.calibrate(0));
        for (int i = 0; i < 4; i++) {
            row.source(0, 100, 2);
        }
        row.hear(64);
        row.window(Beamrow.TENT);
        // Each of 600 tells 2400; by a lag of -3 it is below 0 where the first is above it.
        long sum = 600 - 19 * 2400;
        Check.due("the sum of an even tick", sum, row.sum(0, 17));
        Check.due("the greatest power", 32 * sum * sum, row.power(0));
        Check.due("the greatest power anew", 32 * sum * sum, row.powerAnew(0));
        Check.due("found by the greatest power", -4, row.found(0));
        Check.due("all bearings alike", 0, row.peaks(100));
    }
}
