/** Cellars made ready for tests, and all that can be told of one. */
final class Cellars {
    static final int TANK = 0;
    static final int LITRES = 1;
    static final int STRENGTH = 2;
    static final int MEASURED = 3;
    static final int CLASS = 4;
    static final int LABELS = 5;
    static final int VOID = 6;
    static final int BOTTLES = 7;
    static final int STATE = 8;

    private Cellars() {
    }

    /** A cellar with one ripe keen brew in tank 0, its strength measured. */
    static Cellarscheduler ripe(int litres, int strength) {
        Cellarscheduler x = new Cellarscheduler();
        x.brew(0, litres, 100, 0);
        x.pass(4);
        x.measure(0, strength);
        return x;
    }

    /** A cellar with two ripe keen brews in the tanks 0 and 1, both measured. */
    static Cellarscheduler two(int litres, int strength, int otherLitres, int otherStrength) {
        Cellarscheduler x = new Cellarscheduler();
        x.brew(0, litres, 100, 0);
        x.brew(1, otherLitres, 100, 0);
        x.pass(4);
        x.measure(0, strength);
        x.measure(1, otherStrength);
        return x;
    }

    /** A cellar with a ripe brew in tank 0, of which some bottles of a class were stamped, and no label is left. */
    static Cellarscheduler bottled(int strength, int bottles) {
        Cellarscheduler x = ripe(1000, strength);
        x.print(0, bottles);
        x.bottle(0, bottles);
        return x;
    }

    /** A cellar in which as many brews were begun; the first is in tank 0, all others have come to it and are gone. */
    static Cellarscheduler begun(int brews) {
        Cellarscheduler x = new Cellarscheduler();
        for (int number = 0; number < brews; number++) {
            x.brew(number == 0 ? 0 : 1, 1, 60, 0);
            x.pass(4);
            if (number > 0) {
                x.blend(0, number, 1);
            }
        }
        return x;
    }

    /** All that can be told of a cellar, to see whether something changed. */
    static String all(Cellarscheduler x) {
        StringBuilder told = new StringBuilder();
        told.append(x.paid()).append('/').append(x.owed());
        for (int tank = 0; tank < 8; tank++) {
            told.append(' ').append(x.inTank(tank));
        }
        for (int brew = 0; brew < 20 && isThere(x, brew); brew++) {
            told.append("; ").append(x.classAnew(brew)).append(':').append(text(x, brew));
            for (int what = 0; what <= 8; what++) {
                told.append(' ').append(x.ofBrew(brew, what));
            }
        }
        return told.toString();
    }

    /** What the first brews of a cellar answer to one call of each kind that changes something. */
    static String goOn(Cellarscheduler x) {
        StringBuilder told = new StringBuilder();
        told.append("day ").append(x.pass(1));
        for (int brew = 0; brew < 2; brew++) {
            int of = brew;
            told.append("; ").append(Check.outcome(() -> x.bottle(of, 1)));
            told.append(' ').append(Check.outcome(() -> x.print(of, 3)));
            told.append(' ').append(Check.outcome(() -> x.blend(of, 1 - of, 1)));
            told.append(' ').append(Check.outcome(() -> x.measure(of, 90)));
        }
        for (int tank = 0; tank < 8; tank++) {
            int in = tank;
            told.append("; ").append(Check.outcome(() -> x.brew(in, 10, 200, 0)));
        }
        told.append("; ").append(x.pay(100000)).append(' ').append(x.paid());
        return told.toString();
    }

    private static boolean isThere(Cellarscheduler x, int brew) {
        try {
            x.ofBrew(brew, TANK);
            return true;
        } catch (IndexOutOfBoundsException none) {
            return false;
        }
    }

    /** The text of the labels of a brew. */
    static String text(Cellarscheduler x, int brew) {
        StringBuilder text = new StringBuilder();
        for (int place = 0; place < 40; place++) {
            char sign = x.label(brew, place);
            if (sign == 0) {
                break;
            }
            text.append(sign);
        }
        return text.toString();
    }
}
