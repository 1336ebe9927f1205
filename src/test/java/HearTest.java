/** Promises 7 (hear), 10 (sample) and 17 (tick). */
public final class HearTest {
    public static void main(String[] args) {
        hearTellsTheNextTick();
        hearRefusesWhatIsOutOfRange();
        samplesOf64TicksAreKept();
        samplesAheadOfTick0AreNone();
        sampleRefusesWhatIsNotThere();
        oneByOneOrAllAtOnce();
        longRunsKeepTheLatest();
        theLastOf512Calls();
        Check.end();
    }

    private static void hearTellsTheNextTick() {
        Beamrow row = new Beamrow();
        Check.due("tick at first", 0, row.tick());
        Check.due("hear one", 1, row.hear(1));
        Check.due("tick then", 1, row.tick());
        Check.due("hear a hundred", 101, row.hear(100));
        Check.due("tick then", 101, row.tick());
        Check.due("tick asked again", 101, row.tick());
    }

    private static void hearRefusesWhatIsOutOfRange() {
        Beamrow row = new Beamrow();
        row.element(0, 64, 0);
        row.source(0, 9, 2);
        row.hear(1);
        for (int ticks : new int[] {0, 101, -1, Integer.MIN_VALUE, Integer.MAX_VALUE}) {
            Check.dueThrow("hear out of range", Check.ARGUMENT, () -> row.hear(ticks));
        }
        Check.due("no tick has gone by", 1, row.tick());
        Check.due("the latest sample stands", 9, row.sample(0, 0));
    }

    private static void samplesOf64TicksAreKept() {
        Beamrow row = new Beamrow();
        row.element(0, 64, 0);
        row.source(0, 9, 2);
        row.hear(1);
        row.silence();
        row.hear(63);
        Check.due("the oldest of 64", 9, row.sample(0, 63));
        Check.due("the one behind it", 0, row.sample(0, 62));
        row.hear(1);
        Check.due("it has moved out", 0, row.sample(0, 63));
        row.source(0, 9, 2);
        row.hear(1);
        Check.due("tick 65 is odd", -9, row.sample(0, 0));
        row.silence();
        row.hear(1);
        Check.due("one back", -9, row.sample(0, 1));
    }

    private static void samplesAheadOfTick0AreNone() {
        Beamrow row = new Beamrow();
        row.element(0, 64, 0);
        row.source(0, 9, 2);
        for (int back = 0; back < 64; back++) {
            Check.due("ahead of all ticks", 0, row.sample(0, back));
        }
        row.hear(2);
        Check.due("tick 1", -9, row.sample(0, 0));
        Check.due("tick 0", 9, row.sample(0, 1));
        for (int back = 2; back < 64; back++) {
            Check.due("below tick 0", 0, row.sample(0, back));
        }
    }

    private static void sampleRefusesWhatIsNotThere() {
        Beamrow row = new Beamrow();
        Check.dueThrow("sample of none", Check.INDEX, () -> row.sample(0, 0));
        row.element(0, 64, 0);
        int[][] wrong = {{-1, 0}, {1, 0}, {8, 0}, {0, -1}, {0, 64}, {1, 64}, {Integer.MIN_VALUE, 0},
            {Integer.MAX_VALUE, 0}, {0, Integer.MIN_VALUE}, {0, Integer.MAX_VALUE}};
        for (int[] one : wrong) {
            Check.dueThrow("sample out of range", Check.INDEX, () -> row.sample(one[0], one[1]));
        }
        Check.due("sample in range", 0, row.sample(0, 63));
    }

    private static void longRunsKeepTheLatest() {
        Beamrow row = new Beamrow();
        row.element(0, 64, 0);
        row.source(0, 9, 7);
        for (int i = 1; i <= 440; i++) {
            Check.due("hear", 100 * i, row.hear(100));
        }
        for (int back = 0; back < 64; back++) {
            int tick = 43999 - back;
            Check.due("sample of tick " + tick, tick % 7 < 3 ? 9 : -9, row.sample(0, back));
        }
    }

    private static void oneByOneOrAllAtOnce() {
        Beamrow one = new Beamrow();
        Beamrow other = new Beamrow();
        for (Beamrow row : new Beamrow[] {one, other}) {
            row.element(0, 64, 0);
            row.element(7, 50, -2);
            row.source(-3, 40, 11);
            row.noise(20, 5);
        }
        for (int i = 0; i < 100; i++) {
            one.hear(1);
        }
        other.hear(100);
        for (int back = 0; back < 64; back++) {
            Check.due("one by one", other.sample(0, back), one.sample(0, back));
            Check.due("one by one", other.sample(1, back), one.sample(1, back));
        }
    }

    private static void theLastOf512Calls() {
        Beamrow row = new Beamrow();
        for (int i = 1; i <= 512; i++) {
            Check.due("call " + i, 100 * i, row.hear(100));
        }
        Beamrow other = new Beamrow();
        other.element(0, 64, 0);
        other.source(0, 9, 16);
        for (int i = 3; i <= 510; i++) {
            other.hear(100);
        }
        // 50800 ticks have gone by: the latest leaves 15 by 16, the oldest that is kept leaves 0.
        Check.due("call 511", -9, other.sample(0, 0));
        Check.due("call 512", 9, other.sample(0, 63));
    }
}
