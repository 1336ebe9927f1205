/** Promise 15 (found). */
public final class FoundTest {
    public static void main(String[] args) {
        theStrongestIsFoundFirst();
        alikeOnesAreFoundFromTheLowest();
        oneSourceOfOneElementIsTakenWhole();
        meansAreRoundedDown();
        meansAreNotTurnedByGains();
        onlyKeptSamplesAreTakenFrom();
        samplesStayAsTheyAre();
        noneIsFoundWithoutPower();
        foundRefusesNoPlace();
        Check.end();
    }

    private static void dueFound(String what, Beamrow row, int... want) {
        for (int place = 0; place < want.length; place++) {
            Check.due(what + ", place " + place, want[place], row.found(place));
        }
    }

    private static void theStrongestIsFoundFirst() {
        Beamrow row = new Beamrow();
        for (int position = 0; position <= 12; position += 4) {
            row.element(position, 64, 0);
        }
        row.source(2, 10, 8);
        row.source(-3, 7, 5);
        row.hear(64);
        row.hear(64);
        Check.due("power of 2 is the greatest", true, row.power(2) > row.power(-3));
        dueFound("two sources", row, 2, -3, -4);
    }

    private static void alikeOnesAreFoundFromTheLowest() {
        Beamrow row = new Beamrow();
        row.element(0, 64, 0);
        row.source(3, 10, 2);
        row.hear(64);
        dueFound("all alike", row, -4);
    }

    private static void oneSourceOfOneElementIsTakenWhole() {
        Beamrow row = new Beamrow();
        row.element(0, 64, 0);
        row.source(3, 10, 2);
        row.hear(64);
        dueFound("taken whole", row, -4, Beamrow.NONE, Beamrow.NONE, Beamrow.NONE, Beamrow.NONE, Beamrow.NONE);
        row.window(Beamrow.ENDS);
        dueFound("taken whole by ENDS", row, -4, Beamrow.NONE);
    }

    /** One element with one sample, 1 at even ticks and -1 at odd ones, and a second one behind it. */
    private static Beamrow oneSampleOfTwo(int tick) {
        Beamrow row = new Beamrow();
        row.element(0, 64, 0);
        row.hear(tick);
        row.source(0, 1, 2);
        row.hear(1);
        row.silence();
        row.hear(30);
        row.element(0, 64, 0);
        return row;
    }

    private static void meansAreRoundedDown() {
        // The mean of -1 and nothing is -1: the sum is 0 then.
        dueFound("-1 by two", oneSampleOfTwo(9), -4, Beamrow.NONE);
        // The mean of 1 and nothing is 0: it is found again and again.
        dueFound("1 by two", oneSampleOfTwo(10), -4, -4, -4, -4, -4, -4);
    }

    private static void meansAreNotTurnedByGains() {
        // The second element tells twice its samples; the mean itself is taken from each.
        Beamrow row = new Beamrow();
        row.element(0, 64, 0);
        row.element(0, 32, 0);
        row.source(0, 64, 2);
        row.hear(64);
        row.calibrate(0);
        Check.due("gain by calibration", 32, row.calibrated(1, false));
        Check.due("power", 128L * 128 * 32, row.power(0));
        // The means are 64 and -64: 0 is left of the first, -32 and 32 of the second: there is power yet.
        Check.due("found at first", -4, row.found(0));
        Check.due("found then", -4, row.found(1));
    }

    private static void onlyKeptSamplesAreTakenFrom() {
        Beamrow row = new Beamrow();
        row.element(0, 64, 0);
        row.source(0, 10, 2);
        row.hear(64);
        row.element(0, 64, 0);
        // Half of each sample is taken from the first; nothing is kept of the second to take from:
        // 5, 2 (means 2.5), 1, 0 (0.5) where the samples are above 0;
        // -5, -2 (means -2.5, so -3), -1 (means -1), 0 (means -0.5, so -1) where they are below.
        dueFound("half each time", row, -4, -4, -4, -4, -4, -4);
        Beamrow other = new Beamrow();
        other.element(0, 64, 0);
        other.source(0, 2, 2);
        other.hear(64);
        other.element(0, 64, 0);
        // 2 and -2, then 1 and -1, then 1 (mean 0) and 0 (mean -1).
        dueFound("half of 2", other, -4, -4, -4, -4, -4, -4);
        other.alive(1, false);
        dueFound("without the second", other, -4, Beamrow.NONE);
        // A dead element's zeros are kept: they are taken from.
        Beamrow third = new Beamrow();
        third.element(0, 64, 0);
        third.element(0, 64, 0);
        third.alive(1, false);
        third.source(0, 2, 2);
        third.hear(64);
        third.alive(1, true);
        // 2, 0 and -2, 0; the means are 1 and -1: 1, -1 and -1, 1: the sums are 0.
        dueFound("zeros of a dead one are kept", third, -4, Beamrow.NONE);
    }

    private static void samplesStayAsTheyAre() {
        Beamrow row = new Beamrow();
        row.element(0, 64, 0);
        row.element(7, 50, 1);
        row.source(3, 10, 6);
        row.source(-2, 13, 5);
        row.hear(100);
        int[] samples = new int[64];
        for (int back = 0; back < 64; back++) {
            samples[back] = row.sample(1, back);
        }
        long power = row.power(3);
        int first = row.found(0);
        row.found(5);
        for (int back = 0; back < 64; back++) {
            Check.due("sample behind finding", samples[back], row.sample(1, back));
        }
        Check.due("power behind finding", power, row.power(3));
        Check.due("powerAnew behind finding", power, row.powerAnew(3));
        Check.due("found again", first, row.found(0));
        Check.due("calibrated gain behind finding", 64, row.calibrated(1, false));
    }

    private static void noneIsFoundWithoutPower() {
        Beamrow row = new Beamrow();
        int none = Beamrow.NONE;
        dueFound("no elements", row, none, none, none, none, none, none);
        row.element(0, 64, 0);
        row.source(0, 10, 2);
        dueFound("no ticks", row, none, none, none, none, none, none);
        row.hear(64);
        row.alive(0, false);
        dueFound("no living elements", row, none, none, none, none, none, none);
    }

    private static void foundRefusesNoPlace() {
        Beamrow row = new Beamrow();
        for (int place : new int[] {-1, 6, Integer.MIN_VALUE, Integer.MAX_VALUE}) {
            Check.dueThrow("found of no place", Check.INDEX, () -> row.found(place));
        }
        Check.due("found of the last place", Beamrow.NONE, row.found(5));
    }
}
