/** Promise 14 (peaks). */
public final class PeaksTest {
    public static void main(String[] args) {
        peaksOfOneSource();
        atLeastSoManyHundredths();
        hundredthsThatAreJustMet();
        alikeNeighboursAreNoPeak();
        theLastBearingsHaveOneNeighbour();
        theLastBearingsBelowOrAlikeTheirNeighbour();
        theLeastPowerIsAPeak();
        noPowerNoPeak();
        peaksRefuseWhatIsOutOfRange();
        Check.end();
    }

    private static Beamrow fourElements(int bearing, int period) {
        Beamrow row = new Beamrow();
        for (int position = 0; position <= 12; position += 4) {
            row.element(position, 64, 0);
        }
        row.source(bearing, 10, period);
        row.hear(64);
        return row;
    }

    private static void peaksOfOneSource() {
        // The powers are 0 6400 0 6400 0 19200 51200 19200 0: 6400 is 12.5 hundredths.
        Beamrow row = fourElements(2, 8);
        Check.due("power of -3", 6400, row.power(-3));
        Check.due("power of 2", 51200, row.power(2));
        Check.due("peaks of 1", 3, row.peaks(1));
        Check.due("peaks of 12", 3, row.peaks(12));
        Check.due("peaks of 13", 1, row.peaks(13));
        Check.due("peaks of 100", 1, row.peaks(100));
        row.window(Beamrow.TENT);
        // 6400 9600 0 9600 6400 54400 115200 54400 6400: 9600 is 8.3 hundredths.
        Check.due("peaks of 8 by TENT", 3, row.peaks(8));
        Check.due("peaks of 9 by TENT", 1, row.peaks(9));
        row.silence();
        row.hear(64);
        Check.due("peaks of silence", 0, row.peaks(1));
    }

    private static void atLeastSoManyHundredths() {
        Beamrow row = new Beamrow();
        row.element(0, 64, 0);
        row.element(12, 64, 0);
        row.source(0, 10, 16);
        row.hear(64);
        // Delays of 12 and of -12 leave half of the times with alike signs, one of 9 leaves an eighth.
        long greatest = row.power(0);
        Check.due("power of 0", 400 * 32, greatest);
        Check.due("power of 4", 400 * 16, row.power(4));
        Check.due("power of -4", 400 * 16, row.power(-4));
        Check.due("power of 3", 400 * 4, row.power(3));
        Check.due("peaks of 50, which is met", 3, row.peaks(50));
        Check.due("peaks of 51", 1, row.peaks(51));
    }

    private static void alikeNeighboursAreNoPeak() {
        Beamrow row = new Beamrow();
        row.element(0, 64, 0);
        row.source(0, 10, 2);
        row.hear(64);
        Check.due("power", 3200, row.power(-4));
        Check.due("power alike", 3200, row.power(4));
        Check.due("peaks of alike powers", 0, row.peaks(1));
        Beamrow other = new Beamrow();
        other.element(0, 64, 0);
        other.element(3, 64, 0);
        other.source(0, 10, 16);
        other.hear(64);
        // The delays of bearings 0 and 1 are both 0.
        Check.due("two alike at the top", other.power(0), other.power(1));
        Check.due("no peak at two alike", 0, other.peaks(1));
    }

    private static void theLastBearingsHaveOneNeighbour() {
        for (int bearing : new int[] {-4, 4}) {
            Beamrow row = fourElements(bearing, 16);
            Check.due("peaks of a source at " + bearing, 1, row.peaks(100));
            Check.due("its power", 51200, row.power(bearing));
            Check.due("it is found", bearing, row.found(0));
        }
    }

    private static void theLeastPowerIsAPeak() {
        // By its delay of -12 the bearing -4 alone looks at a sample that is 59 back.
        Beamrow row = new Beamrow();
        row.element(12, 64, 0);
        row.source(0, 1, 2);
        row.hear(1);
        row.silence();
        row.hear(59);
        Check.due("power of -4", 1, row.power(-4));
        Check.due("power of -3", 0, row.power(-3));
        Check.due("a peak of 1", 1, row.peaks(100));
        Check.due("it is found", -4, row.found(0));
    }

    private static void noPowerNoPeak() {
        Beamrow row = new Beamrow();
        Check.due("peaks without elements", 0, row.peaks(1));
        row.element(0, 64, 0);
        row.element(12, 64, 0);
        Check.due("peaks without ticks", 0, row.peaks(1));
        row.source(0, 10, 16);
        row.hear(64);
        row.alive(0, false);
        row.alive(1, false);
        Check.due("peaks without living elements", 0, row.peaks(1));
    }

    private static void peaksRefuseWhatIsOutOfRange() {
        Beamrow row = new Beamrow();
        for (int hundredths : new int[] {0, 101, -1, Integer.MIN_VALUE, Integer.MAX_VALUE}) {
            Check.dueThrow("peaks out of range", Check.ARGUMENT, () -> row.peaks(hundredths));
        }
        Check.due("peaks in range", 0, row.peaks(100));
    }

    /**
     * One element whose delay is three times the bearing: the bearing -4 looks at ticks 4 to 35, the
     * next one at ticks 7 to 38, and so on, 3 at ticks 25 to 56, and 4 at ticks 28 to 59.
     */
    private static Beamrow pulses(int[]... pulses) {
        Beamrow row = new Beamrow();
        row.element(12, 64, 0);
        Sounds.play(row, 1, 64, pulses);
        return row;
    }

    private static void hundredthsThatAreJustMet() {
        Beamrow row = pulses(new int[] {4, 0, 1}, new int[] {59, 0, 10});
        Check.due("the lesser power", 1, row.power(-4));
        Check.due("the greater power", 100, row.power(4));
        Check.due("just 1 hundredth", 2, row.peaks(1));
        Check.due("1 hundredth is below 2", 1, row.peaks(2));
        row = pulses(new int[] {4, 0, 1}, new int[] {58, 0, 1}, new int[] {59, 0, 10});
        Check.due("the greatest power", 101, row.power(4));
        Check.due("not just 1 hundredth", 1, row.peaks(1));
        row = pulses(new int[] {4, 0, 9}, new int[] {59, 0, 10});
        Check.due("just 81 hundredths", 2, row.peaks(81));
        Check.due("81 hundredths are below 82", 1, row.peaks(82));
        row = pulses(new int[] {4, 0, 10}, new int[] {59, 0, -10});
        Check.due("alike powers that are no neighbours", 2, row.peaks(100));
        row = pulses(new int[] {4, 0, 99}, new int[] {59, 0, 100});
        Check.due("98.01 hundredths", 2, row.peaks(98));
        Check.due("98.01 hundredths are below 99", 1, row.peaks(99));
        // Nothing is rounded ahead of comparing.
        row = pulses(new int[] {4, 0, 99}, new int[] {5, 0, 14}, new int[] {6, 0, 1}, new int[] {59, 0, 100});
        Check.due("the lesser power", 9998, row.power(-4));
        Check.due("99.98 hundredths are below 100", 1, row.peaks(100));
    }

    private static void duePeaks(String what, int peaks, int found, int[]... pulses) {
        Beamrow row = pulses(pulses);
        Check.due(what + ": peaks", peaks, row.peaks(1));
        Check.due(what + ": found", found, row.found(0));
    }

    private static void theLastBearingsBelowOrAlikeTheirNeighbour() {
        duePeaks("ahead of all times", 0, Beamrow.NONE, new int[] {3, 0, 10});
        duePeaks("-4 alone", 1, -4, new int[] {4, 0, 10});
        duePeaks("-4 alone, its last tick", 1, -4, new int[] {6, 0, 10});
        duePeaks("-4 and -3 alike", 0, -4, new int[] {7, 0, 10});
        duePeaks("all alike", 0, -4, new int[] {30, 0, 10});
        duePeaks("3 and 4 alike", 0, 3, new int[] {56, 0, 10});
        duePeaks("4 alone, its first tick", 1, 4, new int[] {57, 0, 10});
        duePeaks("4 alone", 1, 4, new int[] {59, 0, 10});
        duePeaks("behind all times", 0, Beamrow.NONE, new int[] {60, 0, 10});
        duePeaks("-4 below all others", 0, -3, new int[] {4, 0, 1}, new int[] {36, 0, 5});
        duePeaks("4 below all others", 0, -4, new int[] {27, 0, 5}, new int[] {59, 0, 1});
        duePeaks("-4 above -3, that above all others", 1, -4, new int[] {4, 0, 1}, new int[] {7, 0, 5});
    }
}
