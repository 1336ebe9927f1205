/** Promises 8 (window), 11 (sum), 12 (power) and 13 (powerAnew). */
public final class SteeringTest {
    public static void main(String[] args) {
        windowTellsTheOneBefore();
        windowRefusesWhatIsOutOfRange();
        windowsWeighByPlaceAmongTheLiving();
        sumsOfATime();
        sumsAreSteeredByDelays();
        sumsUseWhatIsKnownByCalibration();
        sumRefusesWhatIsNotThere();
        powersAreSquaresOf32Times();
        powersRefuseNoBearing();
        powersWithoutLivingElementsAre0();
        powersLookAtThe32TimesAlone();
        Check.end();
    }

    private static void windowTellsTheOneBefore() {
        Beamrow row = new Beamrow();
        Check.due("window at first", Beamrow.BOX, row.window(Beamrow.TENT));
        Check.due("window then", Beamrow.TENT, row.window(Beamrow.ENDS));
        Check.due("window then", Beamrow.ENDS, row.window(Beamrow.BOX));
        Check.due("window then", Beamrow.BOX, row.window(Beamrow.BOX));
    }

    private static void windowRefusesWhatIsOutOfRange() {
        Beamrow row = new Beamrow();
        row.window(Beamrow.TENT);
        for (int window : new int[] {-1, 3, Integer.MIN_VALUE, Integer.MAX_VALUE}) {
            Check.dueThrow("window out of range", Check.ARGUMENT, () -> row.window(window));
        }
        Check.due("the window stands", Beamrow.TENT, row.window(Beamrow.BOX));
    }

    /** The weight of each element, found by letting it alone have a sample that is not 0. */
    private static void dueWeights(String what, int window, boolean[] living, int... want) {
        for (int heard = 0; heard < want.length; heard++) {
            Beamrow row = new Beamrow();
            for (int i = 0; i < want.length; i++) {
                row.element(0, 64, 0);
                row.alive(i, i == heard);
            }
            row.source(0, 7, 2);
            row.hear(64);
            for (int i = 0; i < want.length; i++) {
                row.alive(i, living[i]);
            }
            row.window(window);
            Check.due(what + ", element " + heard, 7L * want[heard], row.sum(0, 17));
            Check.due(what + ", power", 49L * 32 * want[heard] * want[heard], row.power(0));
            Check.due(what + ", powerAnew", 49L * 32 * want[heard] * want[heard], row.powerAnew(0));
        }
    }

    private static void windowsWeighByPlaceAmongTheLiving() {
        boolean[] one = {true};
        dueWeights("BOX of one", Beamrow.BOX, one, 1);
        dueWeights("TENT of one", Beamrow.TENT, one, 1);
        dueWeights("ENDS of one", Beamrow.ENDS, one, 3);
        boolean[] two = {true, true};
        dueWeights("TENT of two", Beamrow.TENT, two, 1, 1);
        dueWeights("ENDS of two", Beamrow.ENDS, two, 3, 3);
        boolean[] five = {true, true, true, true, true};
        dueWeights("BOX of five", Beamrow.BOX, five, 1, 1, 1, 1, 1);
        dueWeights("TENT of five", Beamrow.TENT, five, 1, 2, 3, 2, 1);
        dueWeights("ENDS of five", Beamrow.ENDS, five, 3, 1, 1, 1, 3);
        boolean[] eight = {true, true, true, true, true, true, true, true};
        dueWeights("TENT of eight", Beamrow.TENT, eight, 1, 2, 3, 4, 4, 3, 2, 1);
        dueWeights("ENDS of eight", Beamrow.ENDS, eight, 3, 1, 1, 1, 1, 1, 1, 3);
        boolean[] some = {false, true, false, true, true, false};
        dueWeights("BOX of some", Beamrow.BOX, some, 0, 1, 0, 1, 1, 0);
        dueWeights("TENT of some", Beamrow.TENT, some, 0, 1, 0, 2, 1, 0);
        dueWeights("ENDS of some", Beamrow.ENDS, some, 0, 3, 0, 1, 3, 0);
    }

    private static void sumsOfATime() {
        Beamrow row = new Beamrow();
        row.element(0, 64, 0);
        row.element(0, 96, 0);
        row.source(0, 8, 16);
        row.hear(64);
        for (int back = 16; back <= 47; back++) {
            Check.due("sum " + back + " back", (63 - back) % 16 < 8 ? 20 : -20, row.sum(0, back));
        }
    }

    private static void sumsAreSteeredByDelays() {
        Beamrow row = new Beamrow();
        row.element(0, 64, 0);
        row.element(3, 64, 0);
        row.source(0, 8, 16);
        row.hear(64);
        for (int back = 16; back <= 47; back++) {
            int time = 63 - back;
            int own = time % 16 < 8 ? 8 : -8;
            // 3 * 1 / 4 is 0, but 3 * -1 / 4 rounds down to -1; 3 * 4 / 4 is 3.
            Check.due("sum of bearing 1", 2 * own, row.sum(1, back));
            Check.due("sum of bearing -1", own + ((time - 1) % 16 < 8 ? 8 : -8), row.sum(-1, back));
            Check.due("sum of bearing 4", own + ((time + 3) % 16 < 8 ? 8 : -8), row.sum(4, back));
        }
    }

    private static void sumsUseWhatIsKnownByCalibration() {
        Beamrow row = new Beamrow();
        row.element(0, 64, 0);
        row.element(0, 48, 2);
        row.source(0, 9, 16);
        row.hear(64);
        row.calibrate(0);
        Check.due("lag by calibration", 2, row.calibrated(1, true));
        // Samples are 6 and -7: the mean of size is 6.5, so 64 * 6.5 / 9 is 46.2.
        Check.due("gain by calibration", 46, row.calibrated(1, false));
        for (int back = 16; back <= 47; back++) {
            boolean isAbove = (63 - back) % 16 < 8;
            Check.due("sum of both", isAbove ? 9 + 8 : -9 - 10, row.sum(0, back));
        }
    }

    private static void sumRefusesWhatIsNotThere() {
        Beamrow row = new Beamrow();
        int[][] wrong = {{-5, 16}, {5, 16}, {0, 15}, {0, 48}, {5, 48}, {Integer.MIN_VALUE, 16},
            {Integer.MAX_VALUE, 16}, {0, Integer.MIN_VALUE}, {0, Integer.MAX_VALUE}};
        for (int[] one : wrong) {
            Check.dueThrow("sum out of range", Check.INDEX, () -> row.sum(one[0], one[1]));
        }
        Check.due("sum in range", 0, row.sum(-4, 47));
        Check.due("sum in range", 0, row.sum(4, 16));
    }

    private static void powersAreSquaresOf32Times() {
        Beamrow row = new Beamrow();
        row.element(0, 64, 0);
        row.element(5, 80, 1);
        row.element(12, 40, -2);
        row.source(2, 30, 7);
        row.source(-3, 11, 5);
        row.noise(20, 99);
        row.hear(100);
        row.calibrate(2);
        for (int window = Beamrow.BOX; window <= Beamrow.ENDS; window++) {
            row.window(window);
            for (int bearing = -4; bearing <= 4; bearing++) {
                long squares = 0;
                for (int back = 16; back <= 47; back++) {
                    squares += row.sum(bearing, back) * row.sum(bearing, back);
                }
                Check.due("power of " + bearing, squares, row.power(bearing));
                Check.due("powerAnew of " + bearing, squares, row.powerAnew(bearing));
            }
        }
    }

    private static void powersRefuseNoBearing() {
        Beamrow row = new Beamrow();
        for (int bearing : new int[] {-5, 5, Integer.MIN_VALUE, Integer.MAX_VALUE}) {
            Check.dueThrow("power of no bearing", Check.INDEX, () -> row.power(bearing));
            Check.dueThrow("powerAnew of no bearing", Check.INDEX, () -> row.powerAnew(bearing));
        }
    }

    private static void powersWithoutLivingElementsAre0() {
        Beamrow row = new Beamrow();
        row.element(0, 64, 0);
        row.source(0, 9, 2);
        row.hear(64);
        Check.due("power of one", 32 * 81, row.power(0));
        row.alive(0, false);
        for (int window = Beamrow.BOX; window <= Beamrow.ENDS; window++) {
            row.window(window);
            Check.due("power of none", 0, row.power(0));
            Check.due("powerAnew of none", 0, row.powerAnew(0));
            Check.due("sum of none", 0, row.sum(0, 16));
        }
        row.alive(0, true);
        row.window(Beamrow.BOX);
        Check.due("powerAnew of one", 32 * 81, row.powerAnew(0));
    }

    private static void powersLookAtThe32TimesAlone() {
        Beamrow row = new Beamrow();
        row.element(0, 64, 0);
        row.source(0, 9, 2);
        row.hear(1);
        row.silence();
        for (int back = 0; back < 64; back++) {
            boolean isSeen = back >= 16 && back <= 47;
            Check.due("power with a sample " + back + " back", isSeen ? 81 : 0, row.power(0));
            Check.due("powerAnew with a sample " + back + " back", isSeen ? 81 : 0, row.powerAnew(0));
            if (isSeen) {
                Check.due("sum of that sample", 9, row.sum(0, back));
            }
            row.hear(1);
        }
    }
}
