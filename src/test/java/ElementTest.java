/** Promises 1 (a new object), 2 (element) and 3 (alive). */
public final class ElementTest {
    /** Each of the three out of its range, by one at first. */
    private static final int[][] OUT_OF_RANGE = {{-1, 64, 0}, {13, 64, 0}, {0, 31, 0}, {0, 97, 0}, {0, 64, -4},
        {0, 64, 4}, {Integer.MIN_VALUE, 64, 0}, {Integer.MAX_VALUE, 64, 0}, {0, Integer.MIN_VALUE, 0},
        {0, Integer.MAX_VALUE, 0}, {0, 64, Integer.MIN_VALUE}, {0, 64, Integer.MAX_VALUE}};

    public static void main(String[] args) {
        aNewObjectIsEmpty();
        objectsStandApart();
        elementsAreNumbered();
        eachBoundIsTaken();
        elementRefusesWhatIsOutOfRange();
        atMostEightElements();
        deadElementsCountToo();
        allEightHear();
        anElementHasNoSamplesAheadOfItsComing();
        anElementThatComesLateKeepsFromItsComing();
        aliveTellsWhatWas();
        aliveAsBeforeChangesNothing();
        aliveRefusesNoElement();
        Check.end();
    }

    private static void aNewObjectIsEmpty() {
        Beamrow row = new Beamrow();
        Check.due("tick of a new object", 0, row.tick());
        Check.due("window of a new object", Beamrow.BOX, row.window(Beamrow.BOX));
        Check.due("silence of a new object", 0, row.silence());
        Check.due("noise of a new object", 0, row.noise(0, 1));
        Check.due("peaks of a new object", 0, row.peaks(1));
        Check.due("found of a new object", Beamrow.NONE, row.found(0));
        for (int bearing = -4; bearing <= 4; bearing++) {
            Check.due("power of a new object", 0, row.power(bearing));
            Check.due("powerAnew of a new object", 0, row.powerAnew(bearing));
            Check.due("sum of a new object", 0, row.sum(bearing, 16));
        }
        Check.dueThrow("alive of a new object", Check.INDEX, () -> row.alive(0, true) ? 1 : 0);
        Check.dueThrow("sample of a new object", Check.INDEX, () -> row.sample(0, 0));
        Check.dueThrow("calibrated of a new object", Check.INDEX, () -> row.calibrated(0, true));
        Check.dueThrow("calibrate of a new object", Check.STATE, () -> row.calibrate(0));
        Check.due("the first element", 0, row.element(0, 64, 0));
        Check.due("the first source", 0, row.source(0, 1, 2));
    }

    private static void elementsAreNumbered() {
        Beamrow row = new Beamrow();
        Check.due("element with the least", 0, row.element(0, 32, -3));
        Check.due("element with the most", 1, row.element(12, 96, 3));
        Check.due("element at a place that is taken", 2, row.element(12, 96, 3));
        Check.due("calibrated gain at first", 64, row.calibrated(2, false));
        Check.due("calibrated lag at first", 0, row.calibrated(2, true));
        Check.due("a new element is alive", true, row.alive(2, true));
    }

    private static void elementRefusesWhatIsOutOfRange() {
        Beamrow row = new Beamrow();
        for (int[] one : OUT_OF_RANGE) {
            Check.dueThrow("element out of range", Check.ARGUMENT, () -> row.element(one[0], one[1], one[2]));
        }
        Check.due("refused elements take no number", 0, row.element(0, 64, 0));
    }

    private static void atMostEightElements() {
        Beamrow row = new Beamrow();
        for (int i = 0; i < 8; i++) {
            Check.due("element", i, row.element(i, 64, 0));
        }
        Check.dueThrow("a ninth element", Check.STATE, () -> row.element(0, 64, 0));
        for (int[] one : OUT_OF_RANGE) {
            Check.dueThrow("a ninth element out of range", Check.ARGUMENT,
                    () -> row.element(one[0], one[1], one[2]));
        }
        Check.due("the eighth stands", true, row.alive(7, true));
        Check.dueThrow("the ninth does not", Check.INDEX, () -> row.alive(8, true) ? 1 : 0);
    }

    private static void anElementHasNoSamplesAheadOfItsComing() {
        Beamrow row = new Beamrow();
        row.source(0, 10, 2);
        row.element(0, 64, 0);
        row.hear(10);
        row.element(0, 64, 0);
        for (int back = 0; back < 64; back++) {
            Check.due("sample of one just put up", 0, row.sample(1, back));
        }
        row.hear(2);
        Check.due("its second sample", -10, row.sample(1, 0));
        Check.due("its first sample", 10, row.sample(1, 1));
        Check.due("ahead of its coming", 0, row.sample(1, 2));
        Check.due("the other has that", -10, row.sample(0, 2));
    }

    private static void aliveTellsWhatWas() {
        Beamrow row = new Beamrow();
        row.element(0, 64, 0);
        row.element(0, 64, 0);
        row.source(0, 10, 2);
        row.hear(1);
        Check.due("alive at first", true, row.alive(0, false));
        Check.due("dead then", false, row.alive(0, false));
        Check.due("dead elements keep their samples", 10, row.sample(0, 0));
        row.hear(1);
        Check.due("a dead element gets 0", 0, row.sample(0, 0));
        Check.due("the other lives", -10, row.sample(1, 0));
        Check.due("still dead", false, row.alive(0, true));
        row.hear(1);
        Check.due("alive it hears again", 10, row.sample(0, 0));
        Check.due("what it got dead stays 0", 0, row.sample(0, 1));
        Check.due("alive again", true, row.alive(0, true));
        Check.due("the other was never touched", true, row.alive(1, true));
    }

    private static void aliveRefusesNoElement() {
        Beamrow row = new Beamrow();
        row.element(0, 64, 0);
        for (int element : new int[] {-1, 1, 8, Integer.MIN_VALUE, Integer.MAX_VALUE}) {
            Check.dueThrow("alive of no element", Check.INDEX, () -> row.alive(element, false) ? 1 : 0);
        }
        Check.due("nothing has changed", true, row.alive(0, true));
    }

    private static void objectsStandApart() {
        Beamrow row = new Beamrow();
        row.element(0, 64, 0);
        row.source(0, 10, 2);
        row.noise(20, 5);
        row.window(Beamrow.ENDS);
        row.hear(64);
        aNewObjectIsEmpty();
        Check.due("tick of the first object", 64, row.tick());
        Check.due("window of the first object", Beamrow.ENDS, row.window(Beamrow.BOX));
    }

    private static void eachBoundIsTaken() {
        Beamrow row = new Beamrow();
        int[][] bounds = {{0, 64, 0}, {12, 64, 0}, {6, 32, 0}, {6, 96, 0}, {6, 64, -3}, {6, 64, 3}};
        for (int i = 0; i < bounds.length; i++) {
            Check.due("element at a bound", i, row.element(bounds[i][0], bounds[i][1], bounds[i][2]));
        }
    }

    private static void deadElementsCountToo() {
        Beamrow row = new Beamrow();
        for (int i = 0; i < 8; i++) {
            row.element(0, 64, 0);
            row.alive(i, false);
        }
        Check.dueThrow("a ninth element beside dead ones", Check.STATE, () -> row.element(0, 64, 0));
        Check.due("the eighth is dead", false, row.alive(7, true));
    }

    private static void allEightHear() {
        Beamrow row = new Beamrow();
        for (int i = 0; i < 8; i++) {
            row.element(0, 32 + 8 * i, 0);
        }
        row.source(0, 8, 2);
        row.hear(1);
        for (int i = 0; i < 8; i++) {
            Check.due("sample of element " + i, 4 + i, row.sample(i, 0));
        }
    }

    private static void anElementThatComesLateKeepsFromItsComing() {
        Beamrow row = new Beamrow();
        row.element(0, 64, 0);
        row.source(0, 10, 2);
        row.hear(70);
        row.element(0, 64, 0);
        row.hear(63);
        Check.due("its first sample, of tick 70", 10, row.sample(1, 62));
        Check.due("ahead of its coming, tick 69", 0, row.sample(1, 63));
        Check.due("the other has tick 69", -10, row.sample(0, 63));
        row.hear(1);
        Check.due("its first sample is the oldest", 10, row.sample(1, 63));
        row.hear(1);
        Check.due("its first sample is kept no more", -10, row.sample(1, 63));
    }

    private static void aliveAsBeforeChangesNothing() {
        Beamrow row = new Beamrow();
        row.element(0, 64, 0);
        row.source(0, 10, 2);
        row.hear(1);
        Check.due("alive told of a living one", true, row.alive(0, true));
        Check.due("its sample stays", 10, row.sample(0, 0));
        row.hear(1);
        Check.due("it hears on", -10, row.sample(0, 0));
        row.alive(0, false);
        row.hear(1);
        Check.due("dead told of a dead one", false, row.alive(0, false));
        row.hear(1);
        Check.due("it gets 0 on", 0, row.sample(0, 0));
        Check.due("what it heard alive stays", -10, row.sample(0, 2));
    }
}
