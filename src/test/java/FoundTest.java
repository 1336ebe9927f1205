/** Promise 15 (found). */
public final class FoundTest {
    public static void main(String[] args) {
        theStrongestIsFoundFirst();
        alikeOnesAreFoundFromTheLowest();
        twoAlikeAreFoundOneByOne();
        oneSourceOfOneElementIsTakenWhole();
        sourcesAreTakenFromTheTicksThatWereTold();
        lagsByCalibrationTellFromWhichTicks();
        eachPlaceMayBeTheLastOne();
        meansAreRoundedDown();
        meansBelow0AreRoundedDown();
        meansAreOfAllWeights();
        meansAreNotTurnedByGains();
        gainsByCalibrationTurnWhatIsLeft();
        onlyKeptSamplesAreTakenFrom();
        nothingIsTakenFromTicksBelow0();
        nothingIsTakenAheadOfAnElementsComing();
        samplesStayAsTheyAre();
        noneIsFoundWithoutPower();
        foundRefusesNoPlace();
        Check.end();
    }

    private static void dueFound(String what, Beamrow row, int... want) {
        for (int place = 0; place < want.length; place++) {
            Check.due(what + ", place " + place, want[place], row.found(place));
        }
    }

    private static void theStrongestIsFoundFirst() {
        Beamrow row = new Beamrow();
        for (int position = 0; position <= 12; position += 4) {
            row.element(position, 64, 0);
        }
        row.source(2, 10, 8);
        row.source(-3, 7, 5);
        row.hear(64);
        row.hear(64);
        Check.due("power of 2 is the greatest", true, row.power(2) > row.power(-3));
        dueFound("two sources", row, 2, -3, -4);
    }

    private static void alikeOnesAreFoundFromTheLowest() {
        Beamrow row = new Beamrow();
        row.element(0, 64, 0);
        row.source(3, 10, 2);
        row.hear(64);
        dueFound("all alike", row, -4);
    }

    private static void oneSourceOfOneElementIsTakenWhole() {
        Beamrow row = new Beamrow();
        row.element(0, 64, 0);
        row.source(3, 10, 2);
        row.hear(64);
        dueFound("taken whole", row, -4, Beamrow.NONE, Beamrow.NONE, Beamrow.NONE, Beamrow.NONE, Beamrow.NONE);
        row.window(Beamrow.ENDS);
        dueFound("taken whole by ENDS", row, -4, Beamrow.NONE);
    }

    /** One element with one sample, 1 at even ticks and -1 at odd ones, and a second one behind it. */
    private static Beamrow oneSampleOfTwo(int tick) {
        Beamrow row = new Beamrow();
        row.element(0, 64, 0);
        row.hear(tick);
        row.source(0, 1, 2);
        row.hear(1);
        row.silence();
        row.hear(30);
        row.element(0, 64, 0);
        return row;
    }

    private static void meansAreRoundedDown() {
        // The mean of -1 and nothing is -1: the sum is 0 then.
        dueFound("-1 by two", oneSampleOfTwo(9), -4, Beamrow.NONE);
        // The mean of 1 and nothing is 0: it is found again and again.
        dueFound("1 by two", oneSampleOfTwo(10), -4, -4, -4, -4, -4, -4);
    }

    private static void meansAreNotTurnedByGains() {
        // The second element tells twice its samples; the mean itself is taken from each.
        Beamrow row = new Beamrow();
        row.element(0, 64, 0);
        row.element(0, 32, 0);
        row.source(0, 64, 2);
        row.hear(64);
        row.calibrate(0);
        Check.due("gain by calibration", 32, row.calibrated(1, false));
        Check.due("power", 128L * 128 * 32, row.power(0));
        // The means are 64 and -64: 0 is left of the first, -32 and 32 of the second: there is power yet.
        Check.due("found at first", -4, row.found(0));
        Check.due("found then", -4, row.found(1));
    }

    private static void onlyKeptSamplesAreTakenFrom() {
        Beamrow row = new Beamrow();
        row.element(0, 64, 0);
        row.source(0, 10, 2);
        row.hear(64);
        row.element(0, 64, 0);
        // Half of each sample is taken from the first; nothing is kept of the second to take from:
        // 5, 2 (means 2.5), 1, 0 (0.5) where the samples are above 0;
        // -5, -2 (means -2.5, so -3), -1 (means -1), 0 (means -0.5, so -1) where they are below.
        dueFound("half each time", row, -4, -4, -4, -4, -4, -4);
        Beamrow other = new Beamrow();
        other.element(0, 64, 0);
        other.source(0, 2, 2);
        other.hear(64);
        other.element(0, 64, 0);
        // 2 and -2, then 1 and -1, then 1 (mean 0) and 0 (mean -1).
        dueFound("half of 2", other, -4, -4, -4, -4, -4, -4);
        other.alive(1, false);
        dueFound("without the second", other, -4, Beamrow.NONE);
        // A dead element's zeros are kept: they are taken from.
        Beamrow third = new Beamrow();
        third.element(0, 64, 0);
        third.element(0, 64, 0);
        third.alive(1, false);
        third.source(0, 2, 2);
        third.hear(64);
        third.alive(1, true);
        // 2, 0 and -2, 0; the means are 1 and -1: 1, -1 and -1, 1: the sums are 0.
        dueFound("zeros of a dead one are kept", third, -4, Beamrow.NONE);
    }

    private static void samplesStayAsTheyAre() {
        Beamrow row = new Beamrow();
        row.element(0, 64, 0);
        row.element(7, 50, 1);
        row.source(3, 10, 6);
        row.source(-2, 13, 5);
        row.hear(100);
        int[] samples = new int[64];
        for (int back = 0; back < 64; back++) {
            samples[back] = row.sample(1, back);
        }
        long power = row.power(3);
        int first = row.found(0);
        row.found(5);
        for (int back = 0; back < 64; back++) {
            Check.due("sample behind finding", samples[back], row.sample(1, back));
        }
        Check.due("power behind finding", power, row.power(3));
        Check.due("powerAnew behind finding", power, row.powerAnew(3));
        Check.due("found again", first, row.found(0));
        Check.due("calibrated gain behind finding", 64, row.calibrated(1, false));
    }

    private static void noneIsFoundWithoutPower() {
        Beamrow row = new Beamrow();
        int none = Beamrow.NONE;
        dueFound("no elements", row, none, none, none, none, none, none);
        row.element(0, 64, 0);
        row.source(0, 10, 2);
        dueFound("no ticks", row, none, none, none, none, none, none);
        row.hear(64);
        row.alive(0, false);
        dueFound("no living elements", row, none, none, none, none, none, none);
    }

    private static void foundRefusesNoPlace() {
        Beamrow row = new Beamrow();
        for (int place : new int[] {-1, 6, Integer.MIN_VALUE, Integer.MAX_VALUE}) {
            Check.dueThrow("found of no place", Check.INDEX, () -> row.found(place));
        }
        Check.due("found of the last place", Beamrow.NONE, row.found(5));
    }

    private static void twoAlikeAreFoundOneByOne() {
        // By its delay of three times the bearing only -4 looks at tick 4, and only 4 at tick 59.
        Beamrow row = new Beamrow();
        row.element(12, 64, 0);
        Sounds.play(row, 1, 64, new int[] {4, 0, 10}, new int[] {59, 0, -10});
        Check.due("alike powers", row.power(-4), row.power(4));
        dueFound("two alike", row, -4, 4, Beamrow.NONE, Beamrow.NONE, Beamrow.NONE, Beamrow.NONE);
        row = new Beamrow();
        row.element(12, 64, 0);
        Sounds.play(row, 1, 64, new int[] {4, 0, 10}, new int[] {59, 0, 11});
        dueFound("the greater one first", row, 4, -4, Beamrow.NONE);
    }

    private static void sourcesAreTakenFromTheTicksThatWereTold() {
        Beamrow row = new Beamrow();
        row.element(0, 64, 0);
        row.element(12, 64, 0);
        row.source(-4, 6, 16);
        row.hear(64);
        // Nothing is left at ticks 16 to 47 of the first and 4 to 35 of the second:
        // 4 looks at ticks 28 to 59 of the second, the most of what is left.
        Check.due("power of both", 32 * 144, row.power(-4));
        dueFound("by delays", row, -4, 4);
    }

    private static void lagsByCalibrationTellFromWhichTicks() {
        Beamrow row = new Beamrow();
        row.element(0, 64, 0);
        row.element(0, 64, 2);
        row.source(0, 6, 16);
        row.hear(64);
        row.calibrate(0);
        Check.due("lag by calibration", 2, row.calibrated(1, true));
        dueFound("by lags", row, -4, Beamrow.NONE);
    }

    private static void eachPlaceMayBeTheLastOne() {
        // Nothing is kept of the second element: half is taken each time, and of -1 the whole.
        for (int times = 1; times <= 6; times++) {
            Beamrow row = new Beamrow();
            row.element(0, 64, 0);
            Sounds.play(row, 1, 64, new int[] {31, 0, -(1 << times - 1)});
            row.element(0, 64, 0);
            for (int place = 0; place <= 5; place++) {
                Check.due("found " + times + " times, place " + place, place < times ? -4 : Beamrow.NONE,
                        row.found(place));
            }
        }
    }

    /** Of three elements the second alone hears so much: left is what these windows find of it. */
    private static void dueWeighed(int window, int heard, boolean isTakenWhole) {
        Beamrow row = new Beamrow();
        for (int i = 0; i < 3; i++) {
            row.element(0, 64, 0);
        }
        Sounds.play(row, 3, 64, new int[] {31, 1, heard});
        row.window(window);
        dueFound("window " + window + " of " + heard, row, -4, isTakenWhole ? Beamrow.NONE : -4);
    }

    private static void meansAreOfAllWeights() {
        // 3 by 1 1 1: the mean is 1, and -1, 2, -1 is left.
        dueWeighed(Beamrow.BOX, 3, true);
        dueWeighed(Beamrow.BOX, -3, true);
        dueWeighed(Beamrow.BOX, 4, false);
        // Twice 2 by 1 2 1: the mean is 1, and -1, twice 1, -1 is left.
        dueWeighed(Beamrow.TENT, 2, true);
        dueWeighed(Beamrow.TENT, -2, true);
        dueWeighed(Beamrow.TENT, 3, false);
        // 7 by 3 1 3: the mean is 1, and thrice -1, 6, thrice -1 is left.
        dueWeighed(Beamrow.ENDS, 7, true);
        dueWeighed(Beamrow.ENDS, -7, true);
        dueWeighed(Beamrow.ENDS, 6, false);
        dueWeighed(Beamrow.ENDS, 8, false);
        Beamrow row = new Beamrow();
        row.element(0, 64, 0);
        row.element(0, 64, 0);
        Sounds.play(row, 2, 64, new int[] {31, 0, 1});
        dueFound("half of 1 is 0", row, -4, -4);
        row.alive(1, false);
        dueFound("dead ones have no weight", row, -4, Beamrow.NONE);
    }

    /**
     * By delays of three times the bearing only -4 looks at the pulse of the second element, and only 4
     * at one of the first element far behind it: that one's power is alike to that of the sum that is
     * left of the pulse behind a finding, or just above it.
     */
    private static void dueLeft(int gain, int heard, int left) {
        for (int more = 0; more <= 1; more++) {
            Beamrow row = new Beamrow();
            row.element(12, 64, 0);
            row.element(12, 64, 0);
            Sounds.play(row, 2, 40, new int[] {10, 0, 64}, new int[] {11, 1, gain});
            row.calibrate(0);
            Check.due("gain by calibration", gain, row.calibrated(1, false));
            Sounds.play(row, 2, 164, new int[] {105, 1, heard}, new int[] {159, 0, left + more});
            dueFound("gain " + gain + ", heard " + heard + ", left " + left + " to " + (left + more), row,
                    -4, more == 0 ? -4 : 4);
        }
    }

    private static void gainsByCalibrationTurnWhatIsLeft() {
        // 100 is told as 25, the mean is 12: -12 and 88, told as 22, are left.
        dueLeft(255, 100, 10);
        // -100 is told as -26, the mean is -13: 13 and -87, told as -22, are left.
        dueLeft(255, -100, 9);
        // 100 is told as 50, the mean is 25: -25 and 75, told as 37, are left.
        dueLeft(128, 100, 12);
        // 101 is told as itself, the mean is 50: -50 and 51 are left.
        dueLeft(64, 101, 1);
        // -101 is told as itself, the mean is -51: 51 and -50 are left.
        dueLeft(64, -101, 1);
    }

    private static void meansBelow0AreRoundedDown() {
        for (int more = 0; more <= 1; more++) {
            Beamrow row = new Beamrow();
            for (int i = 0; i < 3; i++) {
                row.element(12, 64, 0);
            }
            // The mean of -4 by three is -2: 2, -2 and 2 are left, so 2 together, and not -1.
            Sounds.play(row, 3, 64, new int[] {4, 1, -4}, new int[] {59, 0, 2 + more});
            dueFound("-4 by three, left 2 to " + (2 + more), row, -4, more == 0 ? -4 : 4);
        }
    }

    /** Two elements, of which the second, 12 behind by the bearing -4, has no pulse at all. */
    private static void dueFoundOf2(String what, int coming, int ticks, int pulse, int second) {
        Beamrow row = new Beamrow();
        row.element(0, 64, 0);
        Sounds.quietUntil(row, coming);
        row.element(12, 64, 0);
        Sounds.play(row, 2, ticks, new int[] {pulse, 0, 2});
        Check.due(what + ": power", 4, row.power(-4));
        dueFound(what, row, -4, second);
    }

    private static void nothingIsTakenFromTicksBelow0() {
        // The mean is 1. If it is taken from the second's tick too, the sum of -4 is 0 then,
        // but other bearings look at the 1 of the first and at the -1 of the second.
        dueFoundOf2("the second's tick is -1", 0, 31, 11, -4);
        dueFoundOf2("the second's tick is 0", 0, 31, 12, -3);
    }

    private static void nothingIsTakenAheadOfAnElementsComing() {
        dueFoundOf2("the tick ahead of its coming", 20, 51, 31, -4);
        dueFoundOf2("its first tick", 20, 51, 32, -3);
        dueFoundOf2("the tick ahead of a late coming", 90, 121, 101, -4);
        dueFoundOf2("its late first tick", 90, 121, 102, -3);
    }
}
