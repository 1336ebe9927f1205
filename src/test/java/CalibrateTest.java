/** Promises 9 (calibrate) and 16 (calibrated). */
public final class CalibrateTest {
    public static void main(String[] args) {
        gainsAndLagsAreFound();
        changesAreCounted();
        lagsAreFoundBehindDelays();
        alikeAgreementsTakeTheLowestLag();
        gainsAreBounded();
        agreementsBelow0AreHeldApart();
        gainsAreRoundedDown();
        othersAreHeldToTheLowestLivingOne();
        calibrationLooksAtSamplesAsKept();
        calibrationLooksAtThe32TimesAlone();
        calibrateRefusesInOrder();
        calibratedRefusesNoElement();
        Check.end();
    }

    private static void dueCalibrated(String what, Beamrow row, int element, int gain, int lag) {
        Check.due(what + ": gain of " + element, gain, row.calibrated(element, false));
        Check.due(what + ": lag of " + element, lag, row.calibrated(element, true));
    }

    private static void gainsAndLagsAreFound() {
        Beamrow row = new Beamrow();
        row.element(0, 64, 0);
        row.element(5, 32, 2);
        row.element(9, 96, -3);
        row.source(0, 50, 16);
        row.hear(64);
        dueCalibrated("at first", row, 1, 64, 0);
        Check.due("two change", 2, row.calibrate(0));
        dueCalibrated("the lowest", row, 0, 64, 0);
        dueCalibrated("quieter and later", row, 1, 32, 2);
        dueCalibrated("louder and earlier", row, 2, 96, -3);
    }

    private static void changesAreCounted() {
        Beamrow row = new Beamrow();
        row.element(0, 64, 0);
        row.element(0, 64, 1);
        row.element(0, 32, 0);
        row.element(0, 64, 0);
        row.source(0, 50, 16);
        row.hear(64);
        Check.due("one by lag, one by gain", 2, row.calibrate(0));
        Check.due("none again", 0, row.calibrate(0));
        row.alive(0, false);
        // The second is the lowest now: 64 and 0 for it, other lags for all others.
        Check.due("the lowest too", 3, row.calibrate(0));
        dueCalibrated("dead ones keep theirs", row, 0, 64, 0);
        dueCalibrated("the new lowest", row, 1, 64, 0);
        dueCalibrated("held to it", row, 2, 32, -1);
        dueCalibrated("held to it", row, 3, 64, -1);
        row.alive(0, true);
        row.alive(3, false);
        Check.due("back, but for the dead one", 2, row.calibrate(0));
        dueCalibrated("dead ones keep theirs", row, 3, 64, -1);
    }

    private static void lagsAreFoundBehindDelays() {
        Beamrow row = new Beamrow();
        row.element(3, 64, 1);
        row.element(9, 64, -1);
        row.source(-3, 50, 16);
        row.hear(64);
        row.calibrate(-3);
        dueCalibrated("by its own bearing", row, 1, 64, -2);
        row.calibrate(-2);
        // Delays are -7 and -3 for -3, but -5 and -2 for -2: a difference of -4 to one of -3.
        dueCalibrated("by another bearing", row, 1, 64, -3);
    }

    private static void alikeAgreementsTakeTheLowestLag() {
        Beamrow row = new Beamrow();
        row.element(0, 64, 0);
        row.element(0, 64, 0);
        row.source(0, 50, 2);
        row.hear(64);
        // The lags -2, 0 and 2 agree alike.
        Check.due("one changes", 1, row.calibrate(0));
        dueCalibrated("the lowest of alike lags", row, 1, 64, -2);
        row.alive(0, false);
        row.silence();
        row.hear(64);
        row.alive(0, true);
        row.alive(1, false);
        row.source(0, 50, 2);
        row.hear(64);
        row.alive(1, true);
        // All agreements are 0: the lowest lag of all, and the least gain.
        Check.due("one changes", 1, row.calibrate(0));
        dueCalibrated("no agreement at all", row, 1, 16, -3);
    }

    private static void gainsAreBounded() {
        Beamrow loud = new Beamrow();
        loud.element(0, 32, 0);
        loud.element(0, 96, 0);
        loud.source(0, 1, 16);
        loud.hear(64);
        // Samples of the lowest: 0 and -1; of the other: 1 and -2: 64 * 2 is the gain.
        Check.due("sample of the lowest", -1, loud.sample(0, 0));
        Check.due("sample of the other", -2, loud.sample(1, 0));
        loud.calibrate(0);
        dueCalibrated("twice as loud", loud, 1, 128, 0);
        dueGainOfOneSample("far above", 100, 255, 3);
        dueGainOfOneSample("at most 255", 3, 64 * 3, 3);
        // A negative agreement with one lag is below that of 0 with all others.
        dueGainOfOneSample("no agreement", -3, 16, -3);
    }

    /** The lowest has one sample of 1; the other has one of so much, 3 ticks later. */
    private static void dueGainOfOneSample(String what, int loudness, int gain, int lag) {
        Beamrow row = new Beamrow();
        row.element(0, 64, 0);
        row.element(0, 64, 0);
        row.alive(1, false);
        row.source(0, 1, 16);
        row.hear(1);
        row.alive(0, false);
        row.silence();
        row.hear(2);
        row.alive(1, true);
        // At tick 3 a period of 16 is above 0, one of 2 below.
        row.source(0, Math.abs(loudness), loudness > 0 ? 16 : 2);
        row.hear(1);
        row.silence();
        row.hear(30);
        row.alive(0, true);
        row.calibrate(0);
        dueCalibrated(what, row, 1, gain, lag);
    }

    private static void agreementsBelow0AreHeldApart() {
        // By its lag of 1 the lowest has 5 at tick 4; the other has -5 at ticks 1 to 7, but -4 at 6.
        Beamrow row = new Beamrow();
        row.element(0, 64, 1);
        row.element(0, 64, 0);
        row.alive(0, false);
        row.hear(1);
        int[] periods = {2, 3, 2, 8, 2, 4, 2};
        for (int tick = 1; tick <= 7; tick++) {
            row.alive(0, tick == 4);
            row.source(0, tick == 6 ? 4 : 5, periods[tick - 1]);
            row.hear(1);
            row.silence();
        }
        row.alive(0, true);
        row.hear(30);
        Check.due("sample of the lowest", 5, row.sample(0, 33));
        Check.due("sample of the other", -5, row.sample(1, 34));
        Check.due("its greatest sample", -4, row.sample(1, 31));
        row.calibrate(0);
        dueCalibrated("the greatest of agreements below 0", row, 1, 16, 2);
    }

    private static void gainsAreRoundedDown() {
        Beamrow row = new Beamrow();
        row.element(0, 64, 0);
        row.element(0, 48, 0);
        row.source(0, 9, 16);
        row.hear(64);
        row.calibrate(0);
        // Samples are 9 and -9, 6 and -7: 64 * (16 * 54 + 16 * 63) / (32 * 81) is 46.2.
        dueCalibrated("46.2", row, 1, 46, 0);
        Beamrow above = new Beamrow();
        above.element(0, 96, 0);
        above.element(0, 95, 0);
        above.source(0, 10, 16);
        above.hear(64);
        above.calibrate(0);
        // 15 and -15, 14 and -15: 64 * (210 + 225) / 450 is 61.9.
        dueCalibrated("61.9", above, 1, 61, 0);
    }

    private static void othersAreHeldToTheLowestLivingOne() {
        Beamrow row = new Beamrow();
        row.element(0, 64, 3);
        row.element(0, 32, 1);
        row.element(0, 64, 2);
        row.source(0, 50, 16);
        row.hear(64);
        row.alive(0, false);
        Check.due("one changes", 1, row.calibrate(0));
        dueCalibrated("the dead one", row, 0, 64, 0);
        dueCalibrated("the lowest living one", row, 1, 64, 0);
        dueCalibrated("held to it", row, 2, 128, 1);
    }

    private static void calibrationLooksAtSamplesAsKept() {
        Beamrow row = new Beamrow();
        row.element(0, 64, 0);
        row.element(0, 32, 2);
        row.source(0, 50, 16);
        row.hear(64);
        for (int i = 0; i < 3; i++) {
            row.calibrate(0);
            dueCalibrated("whatever is known", row, 1, 32, 2);
        }
        row.window(Beamrow.ENDS);
        row.found(5);
        Check.due("windows and finding do not matter", 0, row.calibrate(0));
    }

    private static void calibrationLooksAtThe32TimesAlone() {
        Beamrow row = new Beamrow();
        row.element(0, 64, 0);
        row.source(0, 9, 2);
        row.hear(1);
        row.silence();
        for (int back = 0; back < 64; back++) {
            boolean isSeen = back >= 16 && back <= 47;
            Check.dueThrow("calibrate with a sample " + back + " back", isSeen ? Check.NOTHING : Check.STATE,
                    () -> row.calibrate(0));
            row.hear(1);
        }
    }

    private static void calibrateRefusesInOrder() {
        Beamrow row = new Beamrow();
        for (int bearing : new int[] {-5, 5, Integer.MIN_VALUE, Integer.MAX_VALUE}) {
            Check.dueThrow("no bearing, no element", Check.INDEX, () -> row.calibrate(bearing));
        }
        Check.dueThrow("no element", Check.STATE, () -> row.calibrate(0));
        row.element(0, 64, 0);
        row.element(0, 32, 2);
        Check.dueThrow("nothing heard", Check.STATE, () -> row.calibrate(0));
        row.source(0, 50, 16);
        row.hear(64);
        row.calibrate(0);
        row.alive(0, false);
        row.alive(1, false);
        Check.dueThrow("no living element", Check.STATE, () -> row.calibrate(0));
        Check.dueThrow("no bearing, no living element", Check.INDEX, () -> row.calibrate(5));
        row.alive(1, true);
        row.hear(64);
        row.alive(0, true);
        // The lowest has only zeros, though the other one does not.
        Check.dueThrow("the lowest has heard nothing", Check.STATE, () -> row.calibrate(0));
        dueCalibrated("refused calibration changes nothing", row, 1, 32, 2);
    }

    private static void calibratedRefusesNoElement() {
        Beamrow row = new Beamrow();
        row.element(0, 64, 0);
        for (int element : new int[] {-1, 1, 8, Integer.MIN_VALUE, Integer.MAX_VALUE}) {
            Check.dueThrow("calibrated of no element", Check.INDEX, () -> row.calibrated(element, true));
            Check.dueThrow("calibrated of no element", Check.INDEX, () -> row.calibrated(element, false));
        }
        dueCalibrated("at first", row, 0, 64, 0);
    }
}
