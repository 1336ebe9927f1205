import java.util.Arrays;

/** A workshop of arrays of sensors; README.md says how to use it. */
public final class Beamrow {
    public static final int NONE = -99;
    public static final int BOX = 0, TENT = 1, ENDS = 2;

    private static final int MOST_ELEMENTS = 8;
    private static final int MOST_SOURCES = 4;
    private static final int LAST_BEARING = 4;
    private static final int BEARINGS = 9;
    private static final int LAST_LAG = 3;
    private static final int LAST_PLACE = 5;

    /** Samples are kept of so many ticks: a power of two, so that a mask finds a tick's slot. */
    private static final int KEPT = 64;

    /** A power looks at so many times, the first one FIRST_BACK behind the latest tick. */
    private static final int TIMES = 32;
    private static final int FIRST_BACK = 47;
    private static final int LAST_BACK = 16;

    /** A gain of 64 leaves a sample as it is. */
    private static final int EVEN_GAIN = 64;
    private static final int LEAST_TRIM = 16;
    private static final int MOST_TRIM = 255;

    // All rows are made here and used again: calls of the face make no objects.
    private final Element[] elements = new Element[MOST_ELEMENTS];
    private final Source[] sources = new Source[MOST_SOURCES];
    private final Hiss hiss = new Hiss();
    private final long[] powers = new long[BEARINGS];
    private int elementCount;
    private int sourceCount;
    private int shape;
    private int nextTick;

    public Beamrow() {
        for (int i = 0; i < elements.length; i++) {
            elements[i] = new Element();
        }
        for (int i = 0; i < sources.length; i++) {
            sources[i] = new Source();
        }
        shape = BOX;
    }

    // ---- elements, sources

    public int element(int position, int gain, int lag) throws IllegalArgumentException, IllegalStateException {
        if (!isWithin(position, 0, 12) || !isWithin(gain, 32, 96) || !isWithin(lag, -LAST_LAG, LAST_LAG)) {
            throw new IllegalArgumentException("position, gain or lag is out of range");
        }
        int number = elementCount;
        if (number < 0 || number >= elements.length) {
            throw new IllegalStateException("no more elements can be put up");
        }
        elements[number].putUp(position, gain, lag, nextTick);
        elementCount = number + 1;
        return number;
    }

    public boolean alive(int element, boolean is) throws IndexOutOfBoundsException {
        if (!isElement(element)) {
            throw new IndexOutOfBoundsException("no such element");
        }
        boolean was = elements[element].isLiving();
        elements[element].setLiving(is);
        return was;
    }

    public int source(int bearing, int strength, int period)
            throws IndexOutOfBoundsException, IllegalArgumentException, IllegalStateException {
        if (!isBearing(bearing)) {
            throw new IndexOutOfBoundsException("no such bearing");
        }
        if (!isWithin(strength, 1, 100) || !isWithin(period, 2, 16)) {
            throw new IllegalArgumentException("strength or period is out of range");
        }
        int number = sourceCount;
        if (number < 0 || number >= sources.length) {
            throw new IllegalStateException("no more sources can be set up");
        }
        sources[number].setUp(bearing, strength, period);
        sourceCount = number + 1;
        return number;
    }

    public int silence() {
        int were = sourceCount;
        sourceCount = 0;
        return were;
    }

    public int noise(int loudness, int number) throws IllegalArgumentException {
        if (!isWithin(loudness, 0, 50) || !isWithin(number, 1, 65536)) {
            throw new IllegalArgumentException("loudness or number is out of range");
        }
        int before = hiss.getLoudness();
        hiss.set(loudness, number);
        return before;
    }

    public int hear(int ticks) throws IllegalArgumentException {
        if (!isWithin(ticks, 1, 100)) {
            throw new IllegalArgumentException("ticks is out of range");
        }
        for (int i = 0; i < ticks; i++) {
            hearOneTick();
        }
        return nextTick;
    }

    // ---- steering

    public int window(int window) throws IllegalArgumentException {
        if (!isWithin(window, BOX, ENDS)) {
            throw new IllegalArgumentException("no such window");
        }
        int before = shape;
        shape = window;
        return before;
    }

    public int calibrate(int bearing) throws IndexOutOfBoundsException, IllegalStateException {
        if (!isBearing(bearing)) {
            throw new IndexOutOfBoundsException("no such bearing");
        }
        Element lowest = lowestLiving();
        if (lowest == null) {
            throw new IllegalStateException("no element is alive");
        }
        long squares = lowest.agreement(lowest, firstTime(), bearing, 0);
        if (squares <= 0) {
            throw new IllegalStateException("the lowest element has heard nothing");
        }
        return holdTo(lowest, squares, bearing);
    }

    // ---- questions

    public int sample(int element, int back) throws IndexOutOfBoundsException {
        if (!isElement(element) || !isWithin(back, 0, KEPT - 1)) {
            throw new IndexOutOfBoundsException("no such element or back");
        }
        return (int) elements[element].heardAt(nextTick - 1 - back);
    }

    public long sum(int bearing, int back) throws IndexOutOfBoundsException {
        if (!isBearing(bearing) || !isWithin(back, LAST_BACK, FIRST_BACK)) {
            throw new IndexOutOfBoundsException("no such bearing or back");
        }
        weighAll();
        tellAll(bearing, false);
        return sumAt(FIRST_BACK - back);
    }

    public long power(int bearing) throws IndexOutOfBoundsException {
        if (!isBearing(bearing)) {
            throw new IndexOutOfBoundsException("no such bearing");
        }
        weighAll();
        return powerBySums(bearing, false);
    }

    public long powerAnew(int bearing) throws IndexOutOfBoundsException {
        if (!isBearing(bearing)) {
            throw new IndexOutOfBoundsException("no such bearing");
        }
        weighAll();
        return powerByPairs(bearing);
    }

    public int peaks(int hundredths) throws IllegalArgumentException {
        if (!isWithin(hundredths, 1, 100)) {
            throw new IllegalArgumentException("hundredths is out of range");
        }
        weighAll();
        long greatest = fillPowers(false);
        int many = 0;
        for (int i = 0; i < powers.length; i++) {
            if (isPeak(i) && powers[i] * 100 >= greatest * hundredths) {
                many++;
            }
        }
        return many;
    }

    public int found(int place) throws IndexOutOfBoundsException {
        if (!isWithin(place, 0, LAST_PLACE)) {
            throw new IndexOutOfBoundsException("no such place");
        }
        long allWeights = weighAll();
        for (Element one : elements) {
            one.leaveAll();
        }
        int strongest = strongestLeft();
        for (int i = 0; i < place && strongest != NONE; i++) {
            takeAway(strongest, allWeights);
            strongest = strongestLeft();
        }
        return strongest;
    }

    public int calibrated(int element, boolean isLag) throws IndexOutOfBoundsException {
        if (!isElement(element)) {
            throw new IndexOutOfBoundsException("no such element");
        }
        return isLag ? elements[element].getTrimLag() : elements[element].getTrimGain();
    }

    public int tick() {
        return nextTick;
    }

    // ---- what arguments may be

    private static boolean isWithin(int value, int least, int most) {
        return value >= least && value <= most;
    }

    private static boolean isBearing(int bearing) {
        return isWithin(bearing, -LAST_BEARING, LAST_BEARING);
    }

    private boolean isElement(int number) {
        return number >= 0 && number < elementCount && number < elements.length;
    }

    // ---- hearing

    private void hearOneTick() {
        for (Element one : elements) {
            if (one.isUp()) {
                // Drawn for dead elements too: what others hear must not hang on who is alive.
                int drawn = hiss.draw();
                one.keep(one.isLiving() ? one.turned(wavesAt(one)) + drawn : 0);
            }
        }
        nextTick++;
    }

    private int wavesAt(Element one) {
        int waves = 0;
        for (int i = 0; i < sourceCount && i < sources.length; i++) {
            Source from = sources[i];
            waves += from.waveAt(nextTick - one.delayFor(from.getBearing()) - one.getLag());
        }
        return waves;
    }

    // ---- steering; the weights of weighAll hold until the end of a call

    private int firstTime() {
        return nextTick - 1 - FIRST_BACK;
    }

    /** Gives each element its weight, 0 to those that are not alive, and returns all together. */
    private long weighAll() {
        int living = 0;
        for (Element one : elements) {
            living += one.isLiving() ? 1 : 0;
        }
        int place = 0;
        long all = 0;
        for (Element one : elements) {
            int weight = 0;
            if (one.isLiving()) {
                weight = weightOf(place, living);
                place++;
            }
            one.setWeight(weight);
            all += weight;
        }
        return all;
    }

    private int weightOf(int place, int living) {
        int behind = living - 1 - place;
        if (shape == TENT) {
            return 1 + Math.min(place, behind);
        }
        if (shape == ENDS) {
            return place == 0 || behind == 0 ? 3 : 1;
        }
        return 1;
    }

    private void tellAll(int bearing, boolean ofLeft) {
        int first = firstTime();
        for (Element one : elements) {
            if (one.getWeight() != 0) {
                one.tell(first, bearing, ofLeft);
            }
        }
    }

    /** The sum at one of the 32 times, of what was told last. */
    private long sumAt(int time) {
        long sum = 0;
        for (Element one : elements) {
            if (one.getWeight() != 0) {
                sum += one.getWeight() * one.toldAt(time);
            }
        }
        return sum;
    }

    private long powerBySums(int bearing, boolean ofLeft) {
        tellAll(bearing, ofLeft);
        long power = 0;
        for (int time = 0; time < TIMES; time++) {
            long sum = sumAt(time);
            power += sum * sum;
        }
        return power;
    }

    private long powerByPairs(int bearing) {
        tellAll(bearing, false);
        long power = 0;
        for (Element one : elements) {
            for (Element other : elements) {
                long weights = one.getWeight() * other.getWeight();
                if (weights != 0) {
                    power += weights * one.toldTogether(other);
                }
            }
        }
        return power;
    }

    /** Fills the powers of all bearings, and returns the greatest one. */
    private long fillPowers(boolean ofLeft) {
        long greatest = 0;
        for (int i = 0; i < powers.length; i++) {
            powers[i] = powerBySums(i - LAST_BEARING, ofLeft);
            greatest = Math.max(greatest, powers[i]);
        }
        return greatest;
    }

    private boolean isPeak(int index) {
        long own = powerAt(index);
        return own > 0 && own > powerAt(index - 1) && own > powerAt(index + 1);
    }

    /** A neighbour that is no bearing counts as 0: a power above 0 is above it. */
    private long powerAt(int index) {
        return index >= 0 && index < powers.length ? powers[index] : 0;
    }

    // ---- finding sources one by one

    private int strongestLeft() {
        long greatest = fillPowers(true);
        if (greatest <= 0) {
            return NONE;
        }
        for (int i = 0; i < powers.length; i++) {
            if (powers[i] == greatest) {
                return i - LAST_BEARING;
            }
        }
        return NONE;
    }

    private void takeAway(int bearing, long allWeights) {
        if (allWeights <= 0) {
            return;
        }
        // All is told ahead of the first taking, so every mean is of samples as they were.
        tellAll(bearing, true);
        for (int time = 0; time < TIMES; time++) {
            long mean = Math.floorDiv(sumAt(time), allWeights);
            for (Element one : elements) {
                if (one.getWeight() != 0) {
                    one.takeAway(firstTime() + time, bearing, mean);
                }
            }
        }
    }

    // ---- calibration

    private Element lowestLiving() {
        for (Element one : elements) {
            if (one.isLiving()) {
                return one;
            }
        }
        return null;
    }

    /** Calibrates all living elements by the lowest one; returns how many have changed. */
    private int holdTo(Element lowest, long squares, int bearing) {
        int changed = lowest.trim(EVEN_GAIN, 0) ? 1 : 0;
        for (Element one : elements) {
            if (one != lowest && one.isLiving() && fit(one, lowest, squares, bearing)) {
                changed++;
            }
        }
        return changed;
    }

    private boolean fit(Element one, Element lowest, long squares, int bearing) {
        if (squares <= 0) {
            return false;
        }
        int bestLag = -LAST_LAG;
        long best = one.agreement(lowest, firstTime(), bearing, bestLag);
        for (int lag = bestLag + 1; lag <= LAST_LAG; lag++) {
            long agreement = one.agreement(lowest, firstTime(), bearing, lag);
            if (agreement > best) {
                best = agreement;
                bestLag = lag;
            }
        }
        long gain = Math.floorDiv(EVEN_GAIN * best, squares);
        return one.trim((int) Math.max(LEAST_TRIM, Math.min(MOST_TRIM, gain)), bestLag);
    }

    /** A square wave from a bearing. */
    private static final class Source {
        private int bearing;
        private int strength;
        private int period = 2;

        void setUp(int fromBearing, int itsStrength, int itsPeriod) {
            bearing = fromBearing;
            strength = itsStrength;
            period = itsPeriod;
        }

        int getBearing() {
            return bearing;
        }

        int waveAt(int time) {
            if (period <= 0) {
                return 0;
            }
            return Math.floorMod(time, period) < period / 2 ? strength : -strength;
        }
    }

    /** The noise, drawn by chance from a number that goes on with each drawing. */
    private static final class Hiss {
        private int loudness;
        private int number = 1;

        void set(int itsLoudness, int itsNumber) {
            loudness = itsLoudness;
            number = itsNumber;
        }

        int getLoudness() {
            return loudness;
        }

        int draw() {
            number = (75 * number + 74) % 65537;
            int span = 2 * loudness + 1;
            return span > 0 ? number % span - loudness : 0;
        }
    }

    /** Samples of the latest ticks, each in the slot of its tick. */
    private static final class Tape {
        private final long[] slots = new long[KEPT];
        private int begin;
        private int end;

        void beginAt(int tick) {
            begin = tick;
            end = tick;
        }

        void add(long value) {
            int slot = slotOf(end);
            if (slot < slots.length) {
                slots[slot] = value;
            }
            end++;
        }

        long at(int tick) {
            int slot = slotOf(tick);
            return keeps(tick) && slot < slots.length ? slots[slot] : 0;
        }

        void takeFrom(int tick, long amount) {
            int slot = slotOf(tick);
            if (keeps(tick) && slot < slots.length) {
                slots[slot] -= amount;
            }
        }

        void copyOf(Tape other) {
            System.arraycopy(other.slots, 0, slots, 0, Math.min(slots.length, other.slots.length));
            begin = other.begin;
            end = other.end;
        }

        private boolean keeps(int tick) {
            return tick >= begin && tick < end && tick >= end - KEPT;
        }

        private static int slotOf(int tick) {
            return tick & (KEPT - 1);
        }
    }

    /** A place for an element: it is up from its coming on; one that is not up is not alive. */
    private static final class Element {
        private final Tape heard = new Tape();
        /** What is left of the samples while sources are taken away. */
        private final Tape left = new Tape();
        private final long[] told = new long[TIMES];
        private boolean up;
        private boolean living;
        private int position;
        private int gain;
        private int lag;
        private int trimGain = EVEN_GAIN;
        private int trimLag;
        private long weight;

        void putUp(int itsPosition, int itsGain, int itsLag, int tick) {
            up = true;
            living = true;
            position = itsPosition;
            gain = itsGain;
            lag = itsLag;
            heard.beginAt(tick);
        }

        boolean isUp() {
            return up;
        }

        boolean isLiving() {
            return living;
        }

        void setLiving(boolean is) {
            living = is;
        }

        int getLag() {
            return lag;
        }

        int getTrimGain() {
            return trimGain;
        }

        int getTrimLag() {
            return trimLag;
        }

        /** Sets what is known by calibration; returns whether that is another than before. */
        boolean trim(int newGain, int newLag) {
            boolean isOther = newGain != trimGain || newLag != trimLag;
            trimGain = newGain;
            trimLag = newLag;
            return isOther;
        }

        long getWeight() {
            return weight;
        }

        void setWeight(int itsWeight) {
            weight = itsWeight;
        }

        int delayFor(int bearing) {
            return Math.floorDiv(position * bearing, 4);
        }

        int turned(int waves) {
            return Math.floorDiv(waves * gain, EVEN_GAIN);
        }

        void keep(int value) {
            heard.add(value);
        }

        long heardAt(int tick) {
            return heard.at(tick);
        }

        void leaveAll() {
            left.copyOf(heard);
        }

        /** Fills the row of what the element tells of the 32 times, from the first one on. */
        void tell(int first, int bearing, boolean ofLeft) {
            Tape tape = ofLeft ? left : heard;
            int start = first + delayFor(bearing) + trimLag;
            for (int i = 0; i < told.length; i++) {
                told[i] = trimGain > 0 ? Math.floorDiv(tape.at(start + i) * EVEN_GAIN, (long) trimGain) : 0;
            }
        }

        long toldAt(int time) {
            return time >= 0 && time < told.length ? told[time] : 0;
        }

        /** The products of what both tell, over all times. */
        long toldTogether(Element other) {
            long together = 0;
            for (int i = 0; i < told.length && i < other.told.length; i++) {
                together += told[i] * other.told[i];
            }
            return together;
        }

        /** Takes a mean from the sample that is told of a time; gains do not turn the mean. */
        void takeAway(int time, int bearing, long mean) {
            left.takeFrom(time + delayFor(bearing) + trimLag, mean);
        }

        /** How well this one's samples, so much later, go with the other's, whatever is known. */
        long agreement(Element other, int first, int bearing, int later) {
            int own = first + delayFor(bearing) + later;
            int its = first + other.delayFor(bearing);
            long agreement = 0;
            for (int i = 0; i < TIMES; i++) {
                agreement += heard.at(own + i) * other.heard.at(its + i);
            }
            return agreement;
        }
    }
}
