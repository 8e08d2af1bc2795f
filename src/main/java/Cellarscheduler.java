/** A brewery's cellar: brews, labels, stamps, measures and blends, as ../shared/DOC.md promises them. */
public final class Cellarscheduler {
    public static final int NONE = -1;

    private static final int TANKS = 8;
    private static final int TANK_LITRES = 1000;
    private static final int MOST_BREWS = 20;
    private static final int MOST_CALLS = 512;

    private static final int LEAST_EXTRACT = 50;
    private static final int MOST_EXTRACT = 300;
    private static final int MOST_DAYS = 100;
    private static final int MOST_AT_ONCE = 1000;
    private static final int MOST_LABELS = 2000;
    private static final int MOST_STRENGTH = 250;
    private static final int MOST_PENCE = 100000;

    private static final int STRONG_CLASS = 2;
    private static final int[] STAMPS = {1, 3, 6, 12};

    private static final int[] YEAST_PERCENTS = {82, 75, 66};
    private static final int[] YEAST_DAYS = {4, 7, 12};

    private final Brew[] brews;
    private final Tellings tellings;
    private int begun;
    private int day;
    private int pencePaid;
    private int penceOwed;

    public Cellarscheduler() {
        brews = new Brew[MOST_BREWS];
        tellings = new Tellings();
        begun = 0;
        day = 0;
        pencePaid = 0;
        penceOwed = 0;
    }

    public int brew(int tank, int litres, int extract, int yeast)
            throws IndexOutOfBoundsException, IllegalArgumentException, IllegalStateException {
        if (!isWithin(tank, 0, TANKS - 1) || !isWithin(yeast, 0, YEAST_DAYS.length - 1)) {
            throw new IndexOutOfBoundsException("no such tank or yeast");
        }
        if (!isWithin(litres, 1, TANK_LITRES) || !isWithin(extract, LEAST_EXTRACT, MOST_EXTRACT)) {
            throw new IllegalArgumentException("litres or extract out of range");
        }
        int number = begun;
        if (brewIn(tank) != NONE || number < 0 || number >= brews.length) {
            throw new IllegalStateException("the tank is not empty, or there are 20 brews");
        }
        int foretold = foretoldStrength(extract, yeast);
        brews[number] = new Brew(tank, litres, foretold, day + valueAt(YEAST_DAYS, yeast));
        tellings.addStrength(number, foretold);
        begun = number + 1;
        return number;
    }

    public int pass(int days) throws IllegalArgumentException {
        if (!isWithin(days, 1, MOST_DAYS)) {
            throw new IllegalArgumentException("days out of range");
        }
        day += days;
        return day;
    }

    public int print(int brew, int many)
            throws IndexOutOfBoundsException, IllegalArgumentException, IllegalStateException {
        Brew printed = findBrew(brew);
        if (!isWithin(many, 1, MOST_AT_ONCE)) {
            throw new IllegalArgumentException("many out of range");
        }
        if (printed.isGone() || printed.labelsOfItsClass() + many > MOST_LABELS) {
            throw new IllegalStateException("the brew is gone, or would have too many labels");
        }
        printed.addLabels(many);
        return printed.labels;
    }

    public char label(int brew, int place) throws IndexOutOfBoundsException {
        Brew labelled = findBrew(brew);
        if (place < 0) {
            throw new IndexOutOfBoundsException("no such place");
        }
        String text = labelled.labelText;
        return place < text.length() ? text.charAt(place) : (char) 0;
    }

    public int bottle(int brew, int many)
            throws IndexOutOfBoundsException, IllegalArgumentException, IllegalStateException {
        Brew bottled = findBrew(brew);
        if (!isWithin(many, 1, MOST_AT_ONCE)) {
            throw new IllegalArgumentException("many out of range");
        }
        if (!bottled.isReady(day) || bottled.litres < many || bottled.labelsOfItsClass() < many) {
            throw new IllegalStateException("the brew is not ready, or has too few litres or labels");
        }
        bottled.fillBottles(many);
        int pence = many * stampOf(bottled.strengthClass());
        pencePaid += pence;
        return pence;
    }

    public int measure(int brew, int strength) throws IndexOutOfBoundsException, IllegalArgumentException {
        Brew measured = findBrew(brew);
        if (!isWithin(strength, 0, MOST_STRENGTH)) {
            throw new IllegalArgumentException("strength out of range");
        }
        tellings.addStrength(brew, strength);
        int pence = measured.setMeasured(strength);
        penceOwed += pence;
        return pence;
    }

    public int blend(int brew, int other, int litres)
            throws IndexOutOfBoundsException, IllegalArgumentException, IllegalStateException {
        Brew getting = findBrew(brew);
        Brew giving = findBrew(other);
        if (brew == other || !isWithin(litres, 1, TANK_LITRES)) {
            throw new IllegalArgumentException("both brews are one, or litres out of range");
        }
        if (!getting.isReady(day) || !giving.isReady(day)
                || giving.litres < litres || getting.litres + litres > TANK_LITRES) {
            throw new IllegalStateException("a brew is not ready, or the litres are not there or do not fit");
        }
        tellings.addBlend(brew, other, getting.litres, litres);
        int strength = blendedStrength(getting.strength, getting.litres, giving.strength, litres);
        getting.litres += litres;
        giving.litres -= litres;
        if (getting.isMeasured && giving.isMeasured) {
            penceOwed += getting.setMeasured(strength);
        } else {
            getting.setForetold(strength);
        }
        return strength;
    }

    public int ofBrew(int brew, int what) throws IndexOutOfBoundsException, IllegalArgumentException {
        Brew told = findBrew(brew);
        switch (what) {
            case 0: return told.tank;
            case 1: return told.litres;
            case 2: return told.strength;
            case 3: return told.isMeasured ? 1 : 0;
            case 4: return told.strengthClass();
            case 5: return told.labels;
            case 6: return told.voidLabels;
            case 7: return told.countBottles();
            case 8: return told.isGone() ? 2 : told.isReady(day) ? 1 : 0;
            default: throw new IllegalArgumentException("what out of range");
        }
    }

    public int classAnew(int brew) throws IndexOutOfBoundsException {
        if (!isBegun(brew)) {
            throw new IndexOutOfBoundsException("no such brew");
        }
        return classOf(tellings.strengthAnew(brew));
    }

    public int inTank(int tank) throws IndexOutOfBoundsException {
        if (!isWithin(tank, 0, TANKS - 1)) {
            throw new IndexOutOfBoundsException("no such tank");
        }
        return brewIn(tank);
    }

    public int paid() {
        return pencePaid;
    }

    public int owed() {
        return penceOwed;
    }

    public int pay(int most) throws IllegalArgumentException {
        if (!isWithin(most, 1, MOST_PENCE)) {
            throw new IllegalArgumentException("most out of range");
        }
        int pence = Math.min(most, penceOwed);
        penceOwed -= pence;
        return pence;
    }

    private boolean isBegun(int brew) {
        return brew >= 0 && brew < begun;
    }

    private Brew findBrew(int brew) throws IndexOutOfBoundsException {
        Brew found = isBegun(brew) && brew < brews.length ? brews[brew] : null;
        if (found == null) {
            throw new IndexOutOfBoundsException("no such brew");
        }
        return found;
    }

    private int brewIn(int tank) {
        for (int number = 0; number < begun && number < brews.length; number++) {
            Brew candidate = brews[number];
            if (candidate != null && candidate.tank == tank && !candidate.isGone()) {
                return number;
            }
        }
        return NONE;
    }

    private static boolean isWithin(int value, int least, int most) {
        return value >= least && value <= most;
    }

    private static int valueAt(int[] row, int place) {
        return place >= 0 && place < row.length ? row[place] : 0;
    }

    private static int foretoldStrength(int extract, int yeast) {
        return extract * valueAt(YEAST_PERCENTS, yeast) / 200;
    }

    private static int blendedStrength(int strength, int litres, int otherStrength, int otherLitres) {
        int all = litres + otherLitres;
        return all > 0 ? (strength * litres + otherStrength * otherLitres) / all : strength;
    }

    private static int classOf(int strength) {
        if (strength <= 28) {
            return 0;
        }
        if (strength <= 50) {
            return 1;
        }
        return strength <= 75 ? 2 : 3;
    }

    private static int stampOf(int strengthClass) {
        return valueAt(STAMPS, strengthClass);
    }

    private static String textOfLabel(int strength, int tank) {
        StringBuilder text = new StringBuilder();
        text.append(classOf(strength) >= STRONG_CLASS ? "STRONG ALE " : "ALE ");
        text.append(strength / 10).append('.').append(strength % 10);
        text.append("% OF TANK ").append(tank);
        return text.toString();
    }

    /** One brew with its labels and bottles. */
    private static final class Brew {
        private final int tank;
        private final int ripeDay;
        private int litres;
        private int strength;
        private boolean isMeasured;
        private int labels;
        private int labelClass;
        private int voidLabels;
        private String labelText;
        private final int[] bottlesByClass;

        private Brew(int tank, int litres, int foretold, int ripeDay) {
            this.tank = tank;
            this.ripeDay = ripeDay;
            this.litres = litres;
            this.strength = foretold;
            this.isMeasured = false;
            this.labels = 0;
            this.labelClass = 0;
            this.voidLabels = 0;
            this.labelText = "";
            this.bottlesByClass = new int[STAMPS.length];
        }

        private boolean isGone() {
            return litres <= 0;
        }

        private boolean isReady(int day) {
            return !isGone() && day >= ripeDay;
        }

        private int strengthClass() {
            return classOf(strength);
        }

        private int labelsOfItsClass() {
            return labelClass == strengthClass() ? labels : 0;
        }

        private int countBottles() {
            int count = 0;
            for (int bottles : bottlesByClass) {
                count += bottles;
            }
            return count;
        }

        private void addLabels(int many) {
            if (labelClass != strengthClass()) {
                voidAllLabels();
            }
            labels += many;
            labelClass = strengthClass();
            labelText = textOfLabel(strength, tank);
        }

        private void voidAllLabels() {
            voidLabels += labels;
            labels = 0;
        }

        private void fillBottles(int many) {
            litres -= many;
            labels -= many;
            addBottles(strengthClass(), many);
        }

        private void addBottles(int stampedClass, int many) {
            if (stampedClass >= 0 && stampedClass < bottlesByClass.length) {
                bottlesByClass[stampedClass] += many;
            }
        }

        // A foretold strength leaves labels and bottles alone; only a measured one tells on them.
        private void setForetold(int foretold) {
            strength = foretold;
            isMeasured = false;
        }

        /** Answers the pence that are owed by this measure. */
        private int setMeasured(int measured) {
            strength = measured;
            isMeasured = true;
            if (strengthClass() > labelClass) {
                voidAllLabels();
            }
            return raiseStamps(strengthClass());
        }

        private int raiseStamps(int toClass) {
            int pence = 0;
            for (int from = 0; from < toClass && from < bottlesByClass.length; from++) {
                int bottles = bottlesByClass[from];
                pence += bottles * (stampOf(toClass) - stampOf(from));
                bottlesByClass[from] = 0;
                addBottles(toClass, bottles);
            }
            return pence;
        }
    }

    /** All strengths that were told, in their order, so that they can be found again from the beginning. */
    private static final class Tellings {
        // A call tells one strength at the most.
        private final int[] brew = new int[MOST_CALLS];
        private final int[] strength = new int[MOST_CALLS];
        private final int[] other = new int[MOST_CALLS];
        private final int[] litres = new int[MOST_CALLS];
        private final int[] otherLitres = new int[MOST_CALLS];
        private int count = 0;
        private final int[] found = new int[MOST_BREWS];

        private void addStrength(int ofBrew, int told) {
            add(ofBrew, told, NONE, 0, 0);
        }

        private void addBlend(int ofBrew, int from, int litresBefore, int litresGiven) {
            add(ofBrew, 0, from, litresBefore, litresGiven);
        }

        // What comes after the last promised call is not kept: its answers are free.
        private void add(int ofBrew, int told, int from, int litresBefore, int litresGiven) {
            int place = count;
            if (place < 0 || place >= MOST_CALLS) {
                return;
            }
            brew[place] = ofBrew;
            strength[place] = told;
            other[place] = from;
            litres[place] = litresBefore;
            otherLitres[place] = litresGiven;
            count = place + 1;
        }

        private int strengthAnew(int ofBrew) {
            for (int place = 0; place < count && place < MOST_CALLS; place++) {
                int toldBrew = brew[place];
                if (toldBrew >= 0 && toldBrew < found.length) {
                    found[toldBrew] = strengthAfter(place);
                }
            }
            return valueAt(found, ofBrew);
        }

        private int strengthAfter(int place) {
            if (place < 0 || place >= MOST_CALLS) {
                return 0;
            }
            if (other[place] == NONE) {
                return strength[place];
            }
            return blendedStrength(valueAt(found, brew[place]), litres[place],
                    valueAt(found, other[place]), otherLitres[place]);
        }
    }
}
