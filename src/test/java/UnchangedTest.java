import java.util.ArrayList;
import java.util.List;

/**
 * A call that throws changes nothing, of all promises, and neither does a question: behind it every
 * question and every later call is answered as by a twin that never had it.
 */
public final class UnchangedTest {
    private static final int LEAST = Integer.MIN_VALUE, MOST = Integer.MAX_VALUE;

    private interface Call {
        long on(Beamrow row);
    }

    private interface Made {
        Beamrow one();
    }

    public static void main(String[] args) {
        Made[] all = {Beamrow::new, UnchangedTest::midway, UnchangedTest::full, UnchangedTest::allDead,
            UnchangedTest::lowestUnheard};
        for (Made made : all) {
            outOfRange(made);
            noSuchBearing(made);
            noSuchElement(made);
            questions(made);
        }
        allPlacesTaken();
        calibrateRefused();
        Check.end();
    }

    /** Some elements, one of them dead, two sources, noise, and something known by calibration. */
    private static Beamrow midway() {
        Beamrow row = new Beamrow();
        row.element(0, 64, 0);
        row.element(5, 32, 2);
        row.element(12, 96, -3);
        row.source(0, 50, 16);
        row.source(2, 7, 5);
        row.noise(20, 5);
        row.hear(64);
        row.calibrate(0);
        row.window(Beamrow.TENT);
        row.alive(1, false);
        row.hear(9);
        return row;
    }

    private static Beamrow full() {
        Beamrow row = new Beamrow();
        for (int i = 0; i < 8; i++) {
            row.element(12 - i, 32 + 9 * i, i % 4 - 1);
        }
        for (int i = 0; i < 4; i++) {
            row.source(2 * i - 4, 10 + 30 * i, 5 + 2 * i);
        }
        row.noise(50, 65536);
        row.hear(77);
        row.calibrate(-4);
        row.window(Beamrow.ENDS);
        return row;
    }

    private static Beamrow allDead() {
        Beamrow row = midway();
        for (int element = 0; element < 3; element++) {
            row.alive(element, false);
        }
        return row;
    }

    /** The lowest living element, of which something is known, has only zeros; others have not. */
    private static Beamrow lowestUnheard() {
        Beamrow row = midway();
        row.alive(0, false);
        row.hear(64);
        row.alive(1, true);
        Check.due("lag of the lowest living one", 2, row.calibrated(1, true));
        return row;
    }

    private static void dueUnchanged(String what, Made made, int thrown, Call call) {
        Beamrow touched = made.one();
        Check.dueThrow(what, thrown, () -> call.on(touched));
        List<Long> want = answers(made.one());
        List<Long> got = answers(touched);
        for (int i = 0; i < want.size(); i++) {
            Check.due(what + ", then answer " + i, want.get(i), got.get(i));
        }
    }

    /** What is answered from now on: first all that is there, and then what comes of it. */
    private static List<Long> answers(Beamrow row) {
        List<Long> answers = new ArrayList<>();
        for (int element = 0; element < 8; element++) {
            answersOf(answers, row, element, 7);
        }
        for (int bearing = -4; bearing <= 4; bearing++) {
            add(answers, row, bearing, (one, it) -> one.sum(it, 30));
            add(answers, row, bearing, (one, it) -> one.power(it));
            add(answers, row, bearing, (one, it) -> one.powerAnew(it));
        }
        for (int place = 0; place < 6; place++) {
            add(answers, row, place, (one, it) -> one.found(it));
        }
        add(answers, row, 1, (one, it) -> one.peaks(it));
        add(answers, row, 0, (one, it) -> one.tick());
        add(answers, row, 3, (one, it) -> one.hear(it));
        for (int element = 0; element < 8; element++) {
            add(answers, row, element, (one, it) -> one.sample(it, 0));
            add(answers, row, element, (one, it) -> one.alive(it, true) ? 1 : 0);
        }
        add(answers, row, 1, (one, it) -> one.calibrate(it));
        add(answers, row, Beamrow.BOX, (one, it) -> one.window(it));
        add(answers, row, 9, (one, it) -> one.element(it, 64, 0));
        add(answers, row, 3, (one, it) -> one.source(it, 8, 7));
        add(answers, row, 70, (one, it) -> one.hear(it));
        for (int element = 0; element < 8; element++) {
            answersOf(answers, row, element, 21);
        }
        add(answers, row, 8, (one, it) -> one.noise(it, 1));
        add(answers, row, 0, (one, it) -> one.silence());
        return answers;
    }

    private static void answersOf(List<Long> answers, Beamrow row, int element, int step) {
        add(answers, row, element, (one, it) -> one.calibrated(it, false));
        add(answers, row, element, (one, it) -> one.calibrated(it, true));
        for (int back = 0; back < 64; back += step) {
            int fixed = back;
            add(answers, row, element, (one, it) -> one.sample(it, fixed));
        }
    }

    private interface Question {
        long of(Beamrow row, int argument);
    }

    /** What is thrown counts as an answer too. */
    private static void add(List<Long> answers, Beamrow row, int argument, Question question) {
        long answer;
        try {
            answer = question.of(row, argument);
        } catch (IndexOutOfBoundsException | IllegalArgumentException | IllegalStateException e) {
            answer = Long.MIN_VALUE;
        }
        answers.add(answer);
    }

    private static void outOfRange(Made made) {
        int[][] elements = {{-1, 64, 0}, {13, 64, 0}, {0, 31, 0}, {0, 97, 0}, {0, 64, -4}, {0, 64, 4},
            {LEAST, MOST, LEAST}};
        for (int[] it : elements) {
            dueUnchanged("element out of range", made, Check.ARGUMENT, row -> row.element(it[0], it[1], it[2]));
        }
        int[][] sources = {{0, 0, 2}, {0, 101, 2}, {0, 1, 1}, {0, 1, 17}, {-4, LEAST, MOST}, {4, -1, -1}};
        for (int[] it : sources) {
            dueUnchanged("source out of range", made, Check.ARGUMENT, row -> row.source(it[0], it[1], it[2]));
        }
        int[][] noises = {{-1, 1}, {51, 65536}, {0, 0}, {50, 65537}, {LEAST, LEAST}, {MOST, MOST}};
        for (int[] it : noises) {
            dueUnchanged("noise out of range", made, Check.ARGUMENT, row -> row.noise(it[0], it[1]));
        }
        for (int ticks : new int[] {0, 101, -1, LEAST, MOST}) {
            dueUnchanged("hear out of range", made, Check.ARGUMENT, row -> row.hear(ticks));
        }
        for (int window : new int[] {-1, 3, LEAST, MOST}) {
            dueUnchanged("window out of range", made, Check.ARGUMENT, row -> row.window(window));
        }
        for (int hundredths : new int[] {0, 101, -1, LEAST, MOST}) {
            dueUnchanged("peaks out of range", made, Check.ARGUMENT, row -> row.peaks(hundredths));
        }
        for (int place : new int[] {-1, 6, LEAST, MOST}) {
            dueUnchanged("found of no place", made, Check.INDEX, row -> row.found(place));
        }
    }

    private static void noSuchBearing(Made made) {
        for (int bearing : new int[] {-5, 5, LEAST, MOST}) {
            dueUnchanged("source of no bearing", made, Check.INDEX, row -> row.source(bearing, 100, 16));
            dueUnchanged("source of nothing right", made, Check.INDEX, row -> row.source(bearing, 0, 17));
            dueUnchanged("calibrate of no bearing", made, Check.INDEX, row -> row.calibrate(bearing));
            dueUnchanged("sum of no bearing", made, Check.INDEX, row -> row.sum(bearing, 16));
            dueUnchanged("power of no bearing", made, Check.INDEX, row -> row.power(bearing));
            dueUnchanged("powerAnew of no bearing", made, Check.INDEX, row -> row.powerAnew(bearing));
        }
        for (int back : new int[] {15, 48, LEAST, MOST}) {
            dueUnchanged("sum out of range", made, Check.INDEX, row -> row.sum(0, back));
        }
    }

    private static void noSuchElement(Made made) {
        for (int element : new int[] {-1, 8, LEAST, MOST}) {
            dueUnchanged("alive of no element", made, Check.INDEX, row -> row.alive(element, true) ? 1 : 0);
            dueUnchanged("dead of no element", made, Check.INDEX, row -> row.alive(element, false) ? 1 : 0);
            dueUnchanged("sample of no element", made, Check.INDEX, row -> row.sample(element, 0));
            dueUnchanged("gain of no element", made, Check.INDEX, row -> row.calibrated(element, false));
            dueUnchanged("lag of no element", made, Check.INDEX, row -> row.calibrated(element, true));
        }
        for (int back : new int[] {-1, 64, LEAST, MOST}) {
            dueUnchanged("sample out of range", made, Check.INDEX, row -> row.sample(0, back));
        }
        dueUnchanged("alive of one not there yet", Beamrow::new, Check.INDEX, row -> row.alive(0, false) ? 1 : 0);
        dueUnchanged("alive of the next one", UnchangedTest::midway, Check.INDEX,
                row -> row.alive(3, false) ? 1 : 0);
        dueUnchanged("sample of the next one", UnchangedTest::midway, Check.INDEX, row -> row.sample(3, 0));
        dueUnchanged("gain of the next one", UnchangedTest::midway, Check.INDEX, row -> row.calibrated(3, false));
    }

    private static void allPlacesTaken() {
        Made full = UnchangedTest::full;
        dueUnchanged("a ninth element", full, Check.STATE, row -> row.element(0, 64, 0));
        dueUnchanged("a ninth element of the most", full, Check.STATE, row -> row.element(12, 96, 3));
        dueUnchanged("a fifth source", full, Check.STATE, row -> row.source(0, 1, 2));
        dueUnchanged("a fifth source of the most", full, Check.STATE, row -> row.source(4, 100, 16));
    }

    private static void calibrateRefused() {
        for (int bearing = -4; bearing <= 4; bearing++) {
            int it = bearing;
            dueUnchanged("calibrate without elements", Beamrow::new, Check.STATE, row -> row.calibrate(it));
            dueUnchanged("calibrate without living ones", UnchangedTest::allDead, Check.STATE,
                    row -> row.calibrate(it));
            dueUnchanged("calibrate by one that has heard nothing", UnchangedTest::lowestUnheard, Check.STATE,
                    row -> row.calibrate(it));
        }
    }

    private static void questions(Made made) {
        for (int bearing = -4; bearing <= 4; bearing++) {
            int it = bearing;
            dueUnchanged("sum", made, Check.NOTHING, row -> row.sum(it, 16) + row.sum(it, 47));
            dueUnchanged("power", made, Check.NOTHING, row -> row.power(it));
            dueUnchanged("powerAnew", made, Check.NOTHING, row -> row.powerAnew(it));
        }
        for (int place = 0; place < 6; place++) {
            int it = place;
            dueUnchanged("found", made, Check.NOTHING, row -> row.found(it));
        }
        dueUnchanged("peaks", made, Check.NOTHING, row -> row.peaks(1) + row.peaks(100));
        dueUnchanged("tick", made, Check.NOTHING, row -> row.tick());
        dueUnchanged("sample and calibrated", UnchangedTest::midway, Check.NOTHING,
                row -> row.sample(0, 63) + row.calibrated(0, false) + row.calibrated(0, true));
    }
}
