/** Promise 6 (noise). */
public final class NoiseTest {
    public static void main(String[] args) {
        noiseTellsTheLoudnessBefore();
        noiseRefusesWhatIsOutOfRange();
        noiseIsDrawnByRisingNumbers();
        noiseCanBeSetAnew();
        deadElementsDrawToo();
        thoseNotThereDrawNothing();
        theLeastAndTheGreatestNoise();
        noiseComesBehindTheGain();
        numbersAtTheEdge();
        Check.end();
    }

    private static void noiseTellsTheLoudnessBefore() {
        Beamrow row = new Beamrow();
        Check.due("loudness at first", 0, row.noise(50, 65536));
        Check.due("loudness then", 50, row.noise(0, 1));
        Check.due("loudness of 0", 0, row.noise(7, 1));
        Check.due("loudness of 7", 7, row.noise(7, 1));
    }

    private static void noiseRefusesWhatIsOutOfRange() {
        Beamrow row = new Beamrow();
        row.element(0, 64, 0);
        row.noise(10, 5);
        int[][] wrong = {{-1, 1}, {51, 1}, {0, 0}, {0, 65537}, {-1, 0}, {Integer.MIN_VALUE, 1},
            {Integer.MAX_VALUE, 1}, {0, Integer.MIN_VALUE}, {0, Integer.MAX_VALUE}};
        for (int[] one : wrong) {
            Check.dueThrow("noise out of range", Check.ARGUMENT, () -> row.noise(one[0], one[1]));
        }
        row.hear(1);
        Check.due("refused noise sets no number", (5 * 75 + 74) % 21 - 10, row.sample(0, 0));
        Check.due("refused noise sets no loudness", 10, row.noise(0, 1));
    }

    private static void noiseIsDrawnByRisingNumbers() {
        Beamrow row = new Beamrow();
        row.element(0, 64, 0);
        row.element(0, 64, 0);
        row.noise(20, 5);
        row.hear(2);
        // 5, 449, 33749, 40843 and 48597 follow each other.
        Check.due("first of element 0", 449 % 41 - 20, row.sample(0, 1));
        Check.due("first of element 1", 33749 % 41 - 20, row.sample(1, 1));
        Check.due("second of element 0", 40843 % 41 - 20, row.sample(0, 0));
        Check.due("second of element 1", 48597 % 41 - 20, row.sample(1, 0));
    }

    private static void noiseCanBeSetAnew() {
        Beamrow row = new Beamrow();
        row.element(0, 64, 0);
        row.hear(2);
        Check.due("no loudness, no noise", 0, row.sample(0, 0));
        row.noise(50, 1);
        row.hear(2);
        Check.due("from number 1", 149 % 101 - 50, row.sample(0, 1));
        Check.due("the next one", 11249 % 101 - 50, row.sample(0, 0));
        row.noise(0, 1);
        row.hear(1);
        Check.due("no loudness", 0, row.sample(0, 0));
        row.noise(50, 1);
        row.hear(1);
        Check.due("from number 1 again", 149 % 101 - 50, row.sample(0, 0));
    }

    private static void deadElementsDrawToo() {
        Beamrow row = new Beamrow();
        row.element(0, 64, 0);
        row.element(0, 64, 0);
        row.alive(0, false);
        row.noise(20, 5);
        row.hear(1);
        Check.due("the dead one gets 0", 0, row.sample(0, 0));
        Check.due("but has drawn ahead of the other", 33749 % 41 - 20, row.sample(1, 0));
        row.alive(0, true);
        row.alive(1, false);
        row.hear(2);
        Check.due("alive it draws on", 40843 % 41 - 20, row.sample(0, 1));
        Check.due("the dead last one gets 0", 0, row.sample(1, 1));
        Check.due("but has drawn", 40314 % 41 - 20, row.sample(0, 0));
        row.alive(0, false);
        row.hear(1);
        row.alive(0, true);
        row.hear(1);
        // 8922 was drawn in the tick ahead, 13854 and 56069 while both were dead.
        Check.due("both have drawn while both were dead", (75 * 56069 + 74) % 65537 % 41 - 20, row.sample(0, 0));
    }

    private static void noiseComesBehindTheGain() {
        Beamrow row = new Beamrow();
        row.element(0, 32, 0);
        row.source(0, 11, 2);
        row.noise(20, 5);
        row.hear(2);
        Check.due("sample with noise", 5 + 449 % 41 - 20, row.sample(0, 1));
        Check.due("sample below 0 with noise", -6 + 33749 % 41 - 20, row.sample(0, 0));
    }

    private static void numbersAtTheEdge() {
        Beamrow row = new Beamrow();
        row.element(0, 64, 0);
        row.noise(50, 65536);
        row.hear(2);
        Check.due("65536 follows itself", 65536 % 101 - 50, row.sample(0, 1));
        Check.due("65536 follows itself on", 65536 % 101 - 50, row.sample(0, 0));
        row.noise(50, 45438);
        row.hear(2);
        Check.due("0 follows 45438", -50, row.sample(0, 1));
        Check.due("74 follows 0", 74 - 50, row.sample(0, 0));
    }

    private static void thoseNotThereDrawNothing() {
        Beamrow row = new Beamrow();
        row.noise(20, 5);
        row.hear(3);
        row.element(0, 64, 0);
        row.hear(1);
        Check.due("the first one draws first", 449 % 41 - 20, row.sample(0, 0));
        row.element(0, 64, 0);
        row.hear(1);
        Check.due("the first one draws on", 33749 % 41 - 20, row.sample(0, 0));
        Check.due("the second one draws behind it", 40843 % 41 - 20, row.sample(1, 0));
    }

    private static void theLeastAndTheGreatestNoise() {
        Beamrow row = new Beamrow();
        row.element(0, 64, 0);
        row.noise(1, 5);
        row.hear(4);
        // 449 and 33749 leave 2 by 3, 40843 leaves 1, 48597 leaves 0.
        Check.due("loudness 1, leaving 2", 1, row.sample(0, 3));
        Check.due("loudness 1, leaving 2 again", 1, row.sample(0, 2));
        Check.due("loudness 1, leaving 1", 0, row.sample(0, 1));
        Check.due("loudness 1, leaving 0", -1, row.sample(0, 0));
        // 100 follows 1748, and 0 follows 45438: by 101 they leave the most and the least.
        row.noise(50, 1748);
        row.hear(1);
        Check.due("the greatest noise", 50, row.sample(0, 0));
        row.noise(50, 45438);
        row.hear(1);
        Check.due("the least noise", -50, row.sample(0, 0));
        row.noise(0, 1748);
        row.hear(1);
        Check.due("no loudness leaves nothing", 0, row.sample(0, 0));
    }
}
