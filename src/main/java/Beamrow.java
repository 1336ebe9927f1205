import java.util.Arrays;

/** A workshop of arrays of sensors; README.md says how to use it. */
public final class Beamrow {
    public static final int NONE = -99;
    public static final int BOX = 0, TENT = 1, ENDS = 2;

    private static final int MOST_ELEMENTS = 8;
    private static final int MOST_SOURCES = 4;
    private static final int LAST_BEARING = 4;
    private static final int BEARINGS = 9;
    private static final int LAST_LAG = 3;
    private static final int LAST_PLACE = 5;

    /** Samples are kept of so many ticks: a power of two, so that a mask finds a tick's slot. */
    private static final int KEPT = 64;

    /** A power looks at so many times, the first one FIRST_BACK behind the latest tick. */
    private static final int TIMES = 32;
    private static final int FIRST_BACK = 47;
    private static final int LAST_BACK = 16;

    /** How many of the kept ticks are ahead of the first time. */
    private static final int FIRST_PLACE = KEPT - 1 - FIRST_BACK;

    /** A gain of 64 leaves a sample as it is. */
    private static final int EVEN_GAIN = 64;
    private static final int LEAST_TRIM = 16;
    private static final int MOST_TRIM = 255;

    // All rows are made here and used again: calls of the face make no objects.
    private final Element[] elements = new Element[MOST_ELEMENTS];
    private final Source[] sources = new Source[MOST_SOURCES];
    private final Hiss hiss = new Hiss();
    private final long[] sums = new long[TIMES];
    private final long[] powers = new long[BEARINGS];
    private int elementCount;
    private int sourceCount;
    private int shape;
    private int nextTick;

    public Beamrow() {
        for (int i = 0; i < elements.length; i++) {
            elements[i] = new Element();
        }
        for (int i = 0; i < sources.length; i++) {
            sources[i] = new Source();
        }
        shape = BOX;
    }

    // ---- elements, sources

    public int element(int position, int gain, int lag) throws IllegalArgumentException, IllegalStateException {
        if (!isWithin(position, 0, 12) || !isWithin(gain, 32, 96) || !isWithin(lag, -LAST_LAG, LAST_LAG)) {
            throw new IllegalArgumentException("position, gain or lag is out of range");
        }
        int number = elementCount;
        if (number < 0 || number >= elements.length) {
            throw new IllegalStateException("no more elements can be put up");
        }
        elements[number].putUp(position, gain, lag, nextTick);
        elementCount = number + 1;
        return number;
    }

    public boolean alive(int element, boolean is) throws IndexOutOfBoundsException {
        if (!isElement(element)) {
            throw new IndexOutOfBoundsException("no such element");
        }
        boolean was = elements[element].isLiving();
        elements[element].setLiving(is);
        return was;
    }

    public int source(int bearing, int strength, int period)
            throws IndexOutOfBoundsException, IllegalArgumentException, IllegalStateException {
        if (!isBearing(bearing)) {
            throw new IndexOutOfBoundsException("no such bearing");
        }
        if (!isWithin(strength, 1, 100) || !isWithin(period, 2, 16)) {
            throw new IllegalArgumentException("strength or period is out of range");
        }
        int number = sourceCount;
        if (number < 0 || number >= sources.length) {
            throw new IllegalStateException("no more sources can be set up");
        }
        sources[number].setUp(bearing, strength, period);
        sourceCount = number + 1;
        return number;
    }

    public int silence() {
        int were = sourceCount;
        sourceCount = 0;
        return were;
    }

    public int noise(int loudness, int number) throws IllegalArgumentException {
        if (!isWithin(loudness, 0, 50) || !isWithin(number, 1, 65536)) {
            throw new IllegalArgumentException("loudness or number is out of range");
        }
        int before = hiss.getLoudness();
        hiss.set(loudness, number);
        return before;
    }

    public int hear(int ticks) throws IllegalArgumentException {
        if (!isWithin(ticks, 1, 100)) {
            throw new IllegalArgumentException("ticks is out of range");
        }
        for (int i = 0; i < ticks; i++) {
            hearOneTick();
        }
        return nextTick;
    }

    // ---- steering

    public int window(int window) throws IllegalArgumentException {
        if (!isWithin(window, BOX, ENDS)) {
            throw new IllegalArgumentException("no such window");
        }
        int before = shape;
        shape = window;
        return before;
    }

    public int calibrate(int bearing) throws IndexOutOfBoundsException, IllegalStateException {
        if (!isBearing(bearing)) {
            throw new IndexOutOfBoundsException("no such bearing");
        }
        Element lowest = lowestLiving();
        if (lowest == null) {
            throw new IllegalStateException("no element is alive");
        }
        layAll();
        long squares = lowest.agreement(lowest, bearing, 0);
        if (squares <= 0) {
            throw new IllegalStateException("the lowest element has heard nothing");
        }
        return holdTo(lowest, squares, bearing);
    }

    // ---- questions

    public int sample(int element, int back) throws IndexOutOfBoundsException {
        if (!isElement(element) || !isWithin(back, 0, KEPT - 1)) {
            throw new IndexOutOfBoundsException("no such element or back");
        }
        return elements[element].keptAt(back);
    }

    public long sum(int bearing, int back) throws IndexOutOfBoundsException {
        if (!isBearing(bearing) || !isWithin(back, LAST_BACK, FIRST_BACK)) {
            throw new IndexOutOfBoundsException("no such bearing or back");
        }
        layAll();
        steer(bearing);
        int time = FIRST_BACK - back;
        return time >= 0 && time < sums.length ? sums[time] : 0;
    }

    public long power(int bearing) throws IndexOutOfBoundsException {
        if (!isBearing(bearing)) {
            throw new IndexOutOfBoundsException("no such bearing");
        }
        layAll();
        return powerBySums(bearing);
    }

    public long powerAnew(int bearing) throws IndexOutOfBoundsException {
        if (!isBearing(bearing)) {
            throw new IndexOutOfBoundsException("no such bearing");
        }
        layAll();
        return powerByPairs(bearing);
    }

    public int peaks(int hundredths) throws IllegalArgumentException {
        if (!isWithin(hundredths, 1, 100)) {
            throw new IllegalArgumentException("hundredths is out of range");
        }
        layAll();
        long greatest = fillPowers();
        int many = 0;
        for (int i = 0; i < powers.length; i++) {
            if (isPeak(i) && powers[i] * 100 >= greatest * hundredths) {
                many++;
            }
        }
        return many;
    }

    public int found(int place) throws IndexOutOfBoundsException {
        if (!isWithin(place, 0, LAST_PLACE)) {
            throw new IndexOutOfBoundsException("no such place");
        }
        long allWeights = layAll();
        int bearing = strongest();
        for (int i = 0; i < place && bearing != NONE; i++) {
            takeAway(bearing, allWeights);
            bearing = strongest();
        }
        return bearing;
    }

    public int calibrated(int element, boolean isLag) throws IndexOutOfBoundsException {
        if (!isElement(element)) {
            throw new IndexOutOfBoundsException("no such element");
        }
        return isLag ? elements[element].getTrimLag() : elements[element].getTrimGain();
    }

    public int tick() {
        return nextTick;
    }

    // ---- what arguments may be

    private static boolean isWithin(int value, int least, int most) {
        return value >= least && value <= most;
    }

    private static boolean isBearing(int bearing) {
        return isWithin(bearing, -LAST_BEARING, LAST_BEARING);
    }

    private boolean isElement(int number) {
        return number >= 0 && number < elementCount && number < elements.length;
    }

    // ---- hearing

    private void hearOneTick() {
        for (Element one : elements) {
            if (one.isUp()) {
                // Drawn for dead elements too: what others hear must not hang on who is alive.
                int drawn = hiss.draw();
                one.keep(one.isLiving() ? one.heardOf(wavesAt(one)) + drawn : 0);
            }
        }
        nextTick++;
    }

    private int wavesAt(Element one) {
        int waves = 0;
        for (int i = 0; i < sourceCount && i < sources.length; i++) {
            Source from = sources[i];
            waves += from.waveAt(nextTick - one.delayFor(from.getBearing()) - one.getLag());
        }
        return waves;
    }

    // ---- steering, of what layAll has laid out at the beginning of a call

    /** Gives each element its weight and lays its samples out; returns all weights together. */
    private long layAll() {
        int living = 0;
        for (Element one : elements) {
            living += one.isLiving() ? 1 : 0;
        }
        int place = 0;
        long all = 0;
        for (Element one : elements) {
            int weight = 0;
            if (one.isLiving()) {
                weight = weightOf(place, living);
                place++;
            }
            one.layOut(weight);
            all += weight;
        }
        return all;
    }

    private int weightOf(int place, int living) {
        int behind = living - 1 - place;
        if (shape == TENT) {
            return 1 + Math.min(place, behind);
        }
        if (shape == ENDS) {
            return place == 0 || behind == 0 ? 3 : 1;
        }
        return 1;
    }

    /** Fills the sums of a bearing at the 32 times. */
    private void steer(int bearing) {
        Arrays.fill(sums, 0);
        for (Element one : elements) {
            one.tellTo(sums, bearing);
        }
    }

    private long powerBySums(int bearing) {
        steer(bearing);
        return squaresOfSums();
    }

    private long squaresOfSums() {
        long together = 0;
        for (long one : sums) {
            together += one * one;
        }
        return together;
    }

    private long powerByPairs(int bearing) {
        long together = 0;
        for (Element one : elements) {
            for (Element other : elements) {
                together += one.toldWith(other, bearing);
            }
        }
        return together;
    }

    /** Fills the powers of all bearings, and returns the greatest one. */
    private long fillPowers() {
        long greatest = 0;
        for (int i = 0; i < powers.length; i++) {
            steer(i - LAST_BEARING);
            powers[i] = squaresOfSums();
            greatest = Math.max(greatest, powers[i]);
        }
        return greatest;
    }

    private boolean isPeak(int index) {
        long own = powerAt(index);
        return own > 0 && own > powerAt(index - 1) && own > powerAt(index + 1);
    }

    /** A neighbour that is no bearing counts as 0: a power above 0 is above it. */
    private long powerAt(int index) {
        return index >= 0 && index < powers.length ? powers[index] : 0;
    }

    // ---- finding sources one by one

    private int strongest() {
        long greatest = fillPowers();
        if (greatest <= 0) {
            return NONE;
        }
        for (int i = 0; i < powers.length; i++) {
            if (powers[i] == greatest) {
                return i - LAST_BEARING;
            }
        }
        return NONE;
    }

    private void takeAway(int bearing, long allWeights) {
        if (allWeights <= 0) {
            return;
        }
        // All sums stand ahead of the first taking, so every mean is of samples as they were.
        steer(bearing);
        for (int time = 0; time < sums.length; time++) {
            long mean = Math.floorDiv(sums[time], allWeights);
            for (Element one : elements) {
                one.takeAway(time, bearing, mean);
            }
        }
        for (Element one : elements) {
            one.turnAll();
        }
    }

    // ---- calibration

    private Element lowestLiving() {
        for (Element one : elements) {
            if (one.isLiving()) {
                return one;
            }
        }
        return null;
    }

    /** Calibrates all living elements by the lowest one; returns how many have changed. */
    private int holdTo(Element lowest, long squares, int bearing) {
        int changed = lowest.trim(EVEN_GAIN, 0) ? 1 : 0;
        for (Element one : elements) {
            if (one != lowest && one.isLiving() && fit(one, lowest, squares, bearing)) {
                changed++;
            }
        }
        return changed;
    }

    private static boolean fit(Element one, Element lowest, long squares, int bearing) {
        if (squares <= 0) {
            return false;
        }
        int bestLag = -LAST_LAG;
        long best = one.agreement(lowest, bearing, bestLag);
        for (int lag = bestLag + 1; lag <= LAST_LAG; lag++) {
            long agreement = one.agreement(lowest, bearing, lag);
            if (agreement > best) {
                best = agreement;
                bestLag = lag;
            }
        }
        long gain = Math.floorDiv(EVEN_GAIN * best, squares);
        return one.trim((int) Math.max(LEAST_TRIM, Math.min(MOST_TRIM, gain)), bestLag);
    }

    /** A square wave from a bearing. */
    private static final class Source {
        private int bearing;
        private int strength;
        private int period = 2;

        void setUp(int fromBearing, int itsStrength, int itsPeriod) {
            bearing = fromBearing;
            strength = itsStrength;
            period = itsPeriod;
        }

        int getBearing() {
            return bearing;
        }

        int waveAt(int time) {
            if (period <= 0) {
                return 0;
            }
            return Math.floorMod(time, period) < period / 2 ? strength : -strength;
        }
    }

    /** The noise, drawn by chance from a number that goes on with each drawing. */
    private static final class Hiss {
        private int loudness;
        private int number = 1;

        void set(int itsLoudness, int itsNumber) {
            loudness = itsLoudness;
            number = itsNumber;
        }

        int getLoudness() {
            return loudness;
        }

        int draw() {
            number = (75 * number + 74) % 65537;
            int span = 2 * loudness + 1;
            return span > 0 ? number % span - loudness : 0;
        }
    }

    /** Samples of the latest ticks, each in the slot of its tick. */
    private static final class Tape {
        private final int[] slots = new int[KEPT];
        private int begin;
        private int end;

        void beginAt(int tick) {
            begin = tick;
            end = tick;
        }

        void add(int value) {
            int slot = slotOf(end);
            if (slot < slots.length) {
                slots[slot] = value;
            }
            end++;
        }

        /** The sample that is so many ticks behind the oldest one of which any can be kept. */
        int at(int place) {
            int slot = slotOf(end - KEPT + place);
            return keeps(place) && slot < slots.length ? slots[slot] : 0;
        }

        boolean keeps(int place) {
            return place >= 0 && place < KEPT && end - KEPT + place >= begin;
        }

        private static int slotOf(int tick) {
            return tick & (KEPT - 1);
        }
    }

    /** Room for an element: it is up from its coming on; one that is not up is not alive. */
    private static final class Element {
        private final Tape tape = new Tape();
        /** The samples from the oldest one on; what is found is taken away here, not on the tape. */
        private final long[] laid = new long[KEPT];
        /** These samples turned by the gain that is known by calibration. */
        private final long[] turned = new long[KEPT];
        private boolean up;
        private boolean living;
        private int position;
        private int gain;
        private int lag;
        private int trimGain = EVEN_GAIN;
        private int trimLag;
        /** Above 0 only while it is alive. */
        private long weight;

        void putUp(int itsPosition, int itsGain, int itsLag, int tick) {
            up = true;
            living = true;
            position = itsPosition;
            gain = itsGain;
            lag = itsLag;
            tape.beginAt(tick);
        }

        boolean isUp() {
            return up;
        }

        boolean isLiving() {
            return living;
        }

        void setLiving(boolean is) {
            living = is;
        }

        int getLag() {
            return lag;
        }

        int getTrimGain() {
            return trimGain;
        }

        int getTrimLag() {
            return trimLag;
        }

        /** Sets what is known by calibration; returns whether that is another than before. */
        boolean trim(int newGain, int newLag) {
            boolean isOther = newGain != trimGain || newLag != trimLag;
            trimGain = newGain;
            trimLag = newLag;
            return isOther;
        }

        int delayFor(int bearing) {
            return Math.floorDiv(position * bearing, 4);
        }

        int heardOf(int waves) {
            return Math.floorDiv(waves * gain, EVEN_GAIN);
        }

        void keep(int value) {
            tape.add(value);
        }

        int keptAt(int back) {
            return tape.at(KEPT - 1 - back);
        }

        void layOut(int itsWeight) {
            weight = itsWeight;
            if (weight > 0) {
                for (int i = 0; i < laid.length; i++) {
                    laid[i] = tape.at(i);
                }
                turnAll();
            }
        }

        void turnAll() {
            if (weight > 0 && trimGain > 0) {
                for (int i = 0; i < turned.length && i < laid.length; i++) {
                    turned[i] = Math.floorDiv(laid[i] * EVEN_GAIN, (long) trimGain);
                }
            }
        }

        /** Where the sample stands that is told of the first time for a bearing. */
        private int firstTold(int bearing) {
            return FIRST_PLACE + delayFor(bearing) + trimLag;
        }

        private long toldAt(int place) {
            return place >= 0 && place < turned.length ? turned[place] : 0;
        }

        private long laidAt(int place) {
            return place >= 0 && place < laid.length ? laid[place] : 0;
        }

        /** Adds what it tells of the times, by its weight, to their sums. */
        void tellTo(long[] sums, int bearing) {
            if (weight > 0) {
                int first = firstTold(bearing);
                for (int i = 0; i < sums.length; i++) {
                    sums[i] += weight * toldAt(first + i);
                }
            }
        }

        /** The products of what both tell, each by its weight, over all times. */
        long toldWith(Element other, int bearing) {
            long together = 0;
            if (weight > 0 && other.weight > 0) {
                int first = firstTold(bearing);
                int others = other.firstTold(bearing);
                for (int i = 0; i < TIMES; i++) {
                    together += toldAt(first + i) * other.toldAt(others + i);
                }
            }
            return together * weight * other.weight;
        }

        /** Takes a mean from the sample that is told of a time; gains do not turn the mean. */
        void takeAway(int time, int bearing, long mean) {
            int place = firstTold(bearing) + time;
            if (weight > 0 && tape.keeps(place) && place >= 0 && place < laid.length) {
                laid[place] -= mean;
            }
        }

        /** How well this one's samples, so much later, go with the other's, whatever is known. */
        long agreement(Element other, int bearing, int later) {
            int first = FIRST_PLACE + delayFor(bearing) + later;
            int others = FIRST_PLACE + other.delayFor(bearing);
            long together = 0;
            for (int i = 0; i < TIMES; i++) {
                together += laidAt(first + i) * other.laidAt(others + i);
            }
            return together;
        }
    }
}
