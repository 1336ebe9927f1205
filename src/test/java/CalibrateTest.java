/** Promises 9 (calibrate) and 16 (calibrated). */
public final class CalibrateTest {
    public static void main(String[] args) {
        gainsAndLagsAreFound();
        changesAreCounted();
        lagsAreFoundBehindDelays();
        theLastBearingsAreTaken();
        alikeAgreementsTakeTheLowestLag();
        lagsAreBounded();
        gainsAreBounded();
        gainsAtTheirBounds();
        agreementsBelow0AreHeldApart();
        gainsAreRoundedDown();
        othersAreHeldToTheLowestLivingOne();
        oneAloneIsHeldToNothing();
        allEightAreHeld();
        oneThatComesLateAgreesFromItsComing();
        oneThatComesTooLateDoesNotAgree();
        calibrationLooksAtSamplesAsKept();
        theLowestOnesSamplesAreAsKeptToo();
        windowsDoNotWeighAgreements();
        calibrationLooksAtThe32TimesAlone();
        agreementsAreOfThe32TimesAlone();
        agreementsOfTheFarthestTicks();
        calibrateRefusesInOrder();
        calibratedRefusesNoElement();
        Check.end();
    }

    private static void dueCalibrated(String what, Beamrow row, int element, int gain, int lag) {
        Check.due(what + ": gain of " + element, gain, row.calibrated(element, false));
        Check.due(what + ": lag of " + element, lag, row.calibrated(element, true));
    }

    private static void gainsAndLagsAreFound() {
        Beamrow row = new Beamrow();
        row.element(0, 64, 0);
        row.element(5, 32, 2);
        row.element(9, 96, -3);
        row.source(0, 50, 16);
        row.hear(64);
        dueCalibrated("at first", row, 1, 64, 0);
        Check.due("two change", 2, row.calibrate(0));
        dueCalibrated("the lowest", row, 0, 64, 0);
        dueCalibrated("quieter and later", row, 1, 32, 2);
        dueCalibrated("louder and earlier", row, 2, 96, -3);
    }

    private static void changesAreCounted() {
        Beamrow row = new Beamrow();
        row.element(0, 64, 0);
        row.element(0, 64, 1);
        row.element(0, 32, 0);
        row.element(0, 64, 0);
        row.source(0, 50, 16);
        row.hear(64);
        Check.due("one by lag, one by gain", 2, row.calibrate(0));
        Check.due("none again", 0, row.calibrate(0));
        row.alive(0, false);
        // The second is the lowest now: 64 and 0 for it, other lags for all others.
        Check.due("the lowest too", 3, row.calibrate(0));
        dueCalibrated("dead ones keep theirs", row, 0, 64, 0);
        dueCalibrated("the new lowest", row, 1, 64, 0);
        dueCalibrated("held to it", row, 2, 32, -1);
        dueCalibrated("held to it", row, 3, 64, -1);
        row.alive(0, true);
        row.alive(3, false);
        Check.due("back, but for the dead one", 2, row.calibrate(0));
        dueCalibrated("dead ones keep theirs", row, 3, 64, -1);
    }

    private static void lagsAreFoundBehindDelays() {
        Beamrow row = new Beamrow();
        row.element(3, 64, 1);
        row.element(9, 64, -1);
        row.source(-3, 50, 16);
        row.hear(64);
        row.calibrate(-3);
        dueCalibrated("by its own bearing", row, 1, 64, -2);
        row.calibrate(-2);
        // Delays are -7 and -3 for -3, but -5 and -2 for -2: a difference of -4 to one of -3.
        dueCalibrated("by another bearing", row, 1, 64, -3);
    }

    private static void alikeAgreementsTakeTheLowestLag() {
        Beamrow row = new Beamrow();
        row.element(0, 64, 0);
        row.element(0, 64, 0);
        row.source(0, 50, 2);
        row.hear(64);
        // The lags -2, 0 and 2 agree alike.
        Check.due("one changes", 1, row.calibrate(0));
        dueCalibrated("the lowest of alike lags", row, 1, 64, -2);
        row.alive(0, false);
        row.silence();
        row.hear(64);
        row.alive(0, true);
        row.alive(1, false);
        row.source(0, 50, 2);
        row.hear(64);
        row.alive(1, true);
        // All agreements are 0: the lowest lag of all, and the least gain.
        Check.due("one changes", 1, row.calibrate(0));
        dueCalibrated("no agreement at all", row, 1, 16, -3);
    }

    private static void gainsAreBounded() {
        Beamrow loud = new Beamrow();
        loud.element(0, 32, 0);
        loud.element(0, 96, 0);
        loud.source(0, 1, 16);
        loud.hear(64);
        // Samples of the lowest: 0 and -1; of the other: 1 and -2: 64 * 2 is the gain.
        Check.due("sample of the lowest", -1, loud.sample(0, 0));
        Check.due("sample of the other", -2, loud.sample(1, 0));
        loud.calibrate(0);
        dueCalibrated("twice as loud", loud, 1, 128, 0);
        dueGainOfOneSample("far above", 100, 255, 3);
        dueGainOfOneSample("at most 255", 3, 64 * 3, 3);
        // A negative agreement with one lag is below that of 0 with all others.
        dueGainOfOneSample("no agreement", -3, 16, -3);
    }

    /** The lowest has one sample of 1; the other has one of so much, 3 ticks later. */
    private static void dueGainOfOneSample(String what, int loudness, int gain, int lag) {
        Beamrow row = new Beamrow();
        row.element(0, 64, 0);
        row.element(0, 64, 0);
        row.alive(1, false);
        row.source(0, 1, 16);
        row.hear(1);
        row.alive(0, false);
        row.silence();
        row.hear(2);
        row.alive(1, true);
        // At tick 3 a period of 16 is above 0, one of 2 below.
        row.source(0, Math.abs(loudness), loudness > 0 ? 16 : 2);
        row.hear(1);
        row.silence();
        row.hear(30);
        row.alive(0, true);
        row.calibrate(0);
        dueCalibrated(what, row, 1, gain, lag);
    }

    private static void agreementsBelow0AreHeldApart() {
        // By its lag of 1 the lowest has 5 at tick 4; the other has -5 at ticks 1 to 7, but -4 at 6.
        Beamrow row = new Beamrow();
        row.element(0, 64, 1);
        row.element(0, 64, 0);
        row.alive(0, false);
        row.hear(1);
        int[] periods = {2, 3, 2, 8, 2, 4, 2};
        for (int tick = 1; tick <= 7; tick++) {
            row.alive(0, tick == 4);
            row.source(0, tick == 6 ? 4 : 5, periods[tick - 1]);
            row.hear(1);
            row.silence();
        }
        row.alive(0, true);
        row.hear(30);
        Check.due("sample of the lowest", 5, row.sample(0, 33));
        Check.due("sample of the other", -5, row.sample(1, 34));
        Check.due("its greatest sample", -4, row.sample(1, 31));
        row.calibrate(0);
        dueCalibrated("the greatest of agreements below 0", row, 1, 16, 2);
    }

    private static void gainsAreRoundedDown() {
        Beamrow row = new Beamrow();
        row.element(0, 64, 0);
        row.element(0, 48, 0);
        row.source(0, 9, 16);
        row.hear(64);
        row.calibrate(0);
        // Samples are 9 and -9, 6 and -7: 64 * (16 * 54 + 16 * 63) / (32 * 81) is 46.2.
        dueCalibrated("46.2", row, 1, 46, 0);
        Beamrow above = new Beamrow();
        above.element(0, 96, 0);
        above.element(0, 95, 0);
        above.source(0, 10, 16);
        above.hear(64);
        above.calibrate(0);
        // 15 and -15, 14 and -15: 64 * (210 + 225) / 450 is 61.9.
        dueCalibrated("61.9", above, 1, 61, 0);
    }

    private static void othersAreHeldToTheLowestLivingOne() {
        Beamrow row = new Beamrow();
        row.element(0, 64, 3);
        row.element(0, 32, 1);
        row.element(0, 64, 2);
        row.source(0, 50, 16);
        row.hear(64);
        row.alive(0, false);
        Check.due("one changes", 1, row.calibrate(0));
        dueCalibrated("the dead one", row, 0, 64, 0);
        dueCalibrated("the lowest living one", row, 1, 64, 0);
        dueCalibrated("held to it", row, 2, 128, 1);
    }

    private static void calibrationLooksAtSamplesAsKept() {
        Beamrow row = new Beamrow();
        row.element(0, 64, 0);
        row.element(0, 32, 2);
        row.source(0, 50, 16);
        row.hear(64);
        for (int i = 0; i < 3; i++) {
            row.calibrate(0);
            dueCalibrated("whatever is known", row, 1, 32, 2);
        }
        row.window(Beamrow.ENDS);
        row.found(5);
        Check.due("windows and finding do not matter", 0, row.calibrate(0));
    }

    private static void calibrationLooksAtThe32TimesAlone() {
        Beamrow row = new Beamrow();
        row.element(0, 64, 0);
        row.source(0, 9, 2);
        row.hear(1);
        row.silence();
        for (int back = 0; back < 64; back++) {
            boolean isSeen = back >= 16 && back <= 47;
            Check.dueThrow("calibrate with a sample " + back + " back", isSeen ? Check.NOTHING : Check.STATE,
                    () -> row.calibrate(0));
            row.hear(1);
        }
    }

    private static void calibrateRefusesInOrder() {
        Beamrow row = new Beamrow();
        for (int bearing : new int[] {-5, 5, Integer.MIN_VALUE, Integer.MAX_VALUE}) {
            Check.dueThrow("no bearing, no element", Check.INDEX, () -> row.calibrate(bearing));
        }
        Check.dueThrow("no element", Check.STATE, () -> row.calibrate(0));
        row.element(0, 64, 0);
        row.element(0, 32, 2);
        Check.dueThrow("nothing heard", Check.STATE, () -> row.calibrate(0));
        row.source(0, 50, 16);
        row.hear(64);
        row.calibrate(0);
        row.alive(0, false);
        row.alive(1, false);
        Check.dueThrow("no living element", Check.STATE, () -> row.calibrate(0));
        Check.dueThrow("no bearing, no living element", Check.INDEX, () -> row.calibrate(5));
        row.alive(1, true);
        row.hear(64);
        row.alive(0, true);
        // The lowest has only zeros, though the other one does not.
        Check.dueThrow("the lowest has heard nothing", Check.STATE, () -> row.calibrate(0));
        dueCalibrated("refused calibration changes nothing", row, 1, 32, 2);
    }

    private static void calibratedRefusesNoElement() {
        Beamrow row = new Beamrow();
        row.element(0, 64, 0);
        for (int element : new int[] {-1, 1, 8, Integer.MIN_VALUE, Integer.MAX_VALUE}) {
            Check.dueThrow("calibrated of no element", Check.INDEX, () -> row.calibrated(element, true));
            Check.dueThrow("calibrated of no element", Check.INDEX, () -> row.calibrated(element, false));
        }
        dueCalibrated("at first", row, 0, 64, 0);
    }

    private static Beamrow twoAt(int first, int second) {
        Beamrow row = new Beamrow();
        row.element(first, 64, 0);
        row.element(second, 64, 0);
        return row;
    }

    private static void theLastBearingsAreTaken() {
        // The delay is three times the bearing: -4 looks at ticks 4 to 35, 4 at ticks 28 to 59.
        int[][] seen = {{-4, 3, Check.STATE}, {-4, 4, Check.NOTHING}, {-4, 35, Check.NOTHING},
            {-4, 36, Check.STATE}, {4, 27, Check.STATE}, {4, 28, Check.NOTHING}, {4, 59, Check.NOTHING},
            {4, 60, Check.STATE}};
        for (int[] one : seen) {
            for (int heard = -1; heard <= 1; heard += 2) {
                Beamrow row = new Beamrow();
                row.element(12, 64, 0);
                Sounds.play(row, 1, 64, new int[] {one[1], 0, heard});
                Check.dueThrow("calibrate(" + one[0] + ") with " + heard + " at tick " + one[1], one[2],
                        () -> row.calibrate(one[0]));
            }
        }
    }

    private static void lagsAreBounded() {
        for (int later = -5; later <= 5; later++) {
            Beamrow row = twoAt(0, 0);
            Sounds.play(row, 2, 64, new int[] {31, 0, 64}, new int[] {31 + later, 1, 64});
            boolean isNear = later >= -3 && later <= 3;
            Check.due("changed by " + later, later == 0 ? 0 : 1, row.calibrate(0));
            dueCalibrated("later by " + later, row, 1, isNear ? 64 : 16, isNear ? later : -3);
        }
        Beamrow row = twoAt(0, 0);
        Sounds.play(row, 2, 64, new int[] {31, 0, 64}, new int[] {28, 1, 20}, new int[] {34, 1, 20});
        row.calibrate(0);
        dueCalibrated("the least and the greatest lag alike", row, 1, 20, -3);
        row = twoAt(0, 0);
        Sounds.play(row, 2, 64, new int[] {31, 0, 64}, new int[] {28, 1, 20}, new int[] {34, 1, 21});
        row.calibrate(0);
        dueCalibrated("the greatest lag is the better one", row, 1, 21, 3);
    }

    private static void gainsAtTheirBounds() {
        int[][] gains = {{1, 16}, {15, 16}, {16, 16}, {17, 17}, {63, 63}, {65, 65}, {254, 254}, {255, 255},
            {256, 255}, {400, 255}};
        for (int[] one : gains) {
            // The squares are 64 times 64: the gain is what the other one has heard.
            Beamrow row = twoAt(0, 0);
            Sounds.play(row, 2, 64, new int[] {31, 0, 64}, new int[] {32, 1, one[0]});
            row.calibrate(0);
            dueCalibrated("heard " + one[0], row, 1, one[1], 1);
            row = twoAt(0, 0);
            Sounds.play(row, 2, 64, new int[] {31, 0, -64}, new int[] {32, 1, -one[0]});
            row.calibrate(0);
            dueCalibrated("heard -" + one[0], row, 1, one[1], 1);
        }
    }

    private static void oneAloneIsHeldToNothing() {
        Beamrow row = new Beamrow();
        row.element(5, 64, 0);
        Sounds.play(row, 1, 64, new int[] {31, 0, 1});
        Check.due("none changes", 0, row.calibrate(0));
        dueCalibrated("alone", row, 0, 64, 0);
    }

    private static void allEightAreHeld() {
        Beamrow row = new Beamrow();
        for (int i = 0; i < 8; i++) {
            row.element(i, i == 0 ? 64 : 32 + 8 * (i % 4), i % 4 - 1);
        }
        row.source(0, 64, 16);
        row.hear(64);
        Check.due("seven change", 7, row.calibrate(0));
        for (int i = 1; i < 8; i++) {
            dueCalibrated("all eight", row, i, 32 + 8 * (i % 4), i % 4);
        }
        Check.due("none changes again", 0, row.calibrate(0));
    }

    private static void oneThatComesLateAgreesFromItsComing() {
        Beamrow row = new Beamrow();
        row.element(0, 64, 0);
        Sounds.play(row, 1, 34, new int[] {31, 0, 64});
        row.element(0, 64, 0);
        Sounds.play(row, 2, 64, new int[] {34, 1, 40});
        Check.due("its first tick agrees", 1, row.calibrate(0));
        dueCalibrated("its first tick", row, 1, 40, 3);
    }

    private static void oneThatComesTooLateDoesNotAgree() {
        Beamrow row = new Beamrow();
        row.element(0, 64, 0);
        row.source(0, 64, 2);
        row.hear(64);
        row.element(0, 64, 0);
        Check.due("nothing of it is kept", 1, row.calibrate(0));
        dueCalibrated("nothing of it is kept", row, 1, 16, -3);
        Check.due("none changes again", 0, row.calibrate(0));
    }

    private static void agreementsAreOfThe32TimesAlone() {
        // The times are 16 to 47: a lag of 1 would fit to what the lowest has heard beside them.
        Beamrow row = twoAt(0, 0);
        Sounds.play(row, 2, 64, new int[] {15, 0, 64}, new int[] {20, 0, 64}, new int[] {16, 1, 64},
                new int[] {22, 1, 64});
        row.calibrate(0);
        dueCalibrated("ahead of the times", row, 1, 64, 2);
        row = twoAt(0, 0);
        Sounds.play(row, 2, 64, new int[] {48, 0, 64}, new int[] {40, 0, 64}, new int[] {49, 1, 64},
                new int[] {42, 1, 64});
        row.calibrate(0);
        dueCalibrated("behind the times", row, 1, 64, 2);
        row = twoAt(0, 0);
        Sounds.play(row, 2, 64, new int[] {16, 0, 64}, new int[] {47, 0, 64}, new int[] {17, 1, 64},
                new int[] {48, 1, 64});
        row.calibrate(0);
        dueCalibrated("the first time and the last", row, 1, 64, 1);
    }

    private static void agreementsOfTheFarthestTicks() {
        // The second is 12 behind by 4, and 12 ahead by -4; its lags are 3 more at the most.
        int[][] told = {{-4, 16, 1, 64, -3}, {-4, 16, 0, 16, -3}, {4, 47, 62, 64, 3}, {4, 47, 63, 16, -3}};
        for (int[] one : told) {
            Beamrow row = twoAt(0, 12);
            Sounds.play(row, 2, 64, new int[] {one[1], 0, 64}, new int[] {one[2], 1, 64});
            row.calibrate(one[0]);
            dueCalibrated("bearing " + one[0] + ", tick " + one[2], row, 1, one[3], one[4]);
        }
    }

    private static void theLowestOnesSamplesAreAsKeptToo() {
        Beamrow row = new Beamrow();
        row.element(0, 64, 0);
        row.element(0, 32, 2);
        row.element(0, 96, 1);
        row.source(0, 50, 16);
        row.hear(64);
        row.calibrate(0);
        dueCalibrated("held to the first", row, 1, 32, 2);
        dueCalibrated("held to the first", row, 2, 96, 1);
        row.alive(0, false);
        Check.due("both change", 2, row.calibrate(0));
        dueCalibrated("the lowest now", row, 1, 64, 0);
        dueCalibrated("held to it as it is kept", row, 2, 192, -1);
        // By a gain of 255 the second tells 3 as 0: its squares would be 0 by what it tells.
        row = twoAt(0, 0);
        row.element(0, 64, 0);
        Sounds.play(row, 3, 40, new int[] {10, 0, 64}, new int[] {11, 1, 255});
        row.calibrate(0);
        dueCalibrated("held to the first", row, 1, 255, 1);
        Sounds.play(row, 3, 100, new int[] {60, 1, 3}, new int[] {61, 2, 5});
        row.alive(0, false);
        Check.due("told as 0", 0, row.sum(0, 40));
        Check.due("both change again", 2, row.calibrate(0));
        dueCalibrated("the lowest now", row, 1, 64, 0);
        dueCalibrated("held to it as it is kept", row, 2, 106, 1);
    }

    private static void windowsDoNotWeighAgreements() {
        for (int window = Beamrow.BOX; window <= Beamrow.ENDS; window++) {
            Beamrow row = new Beamrow();
            row.element(0, 64, 0);
            row.element(0, 32, 1);
            row.element(0, 96, 2);
            row.source(0, 50, 16);
            row.hear(64);
            row.window(window);
            row.calibrate(0);
            dueCalibrated("window " + window, row, 1, 32, 1);
            dueCalibrated("window " + window, row, 2, 96, 2);
        }
    }
}
