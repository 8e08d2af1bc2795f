/** The boundaries that promises 7, 8 and 10 name, of strengths measured, blended and found again. */
public final class StrengthBoundaryTest {
    private static final int[] LEASTS = {0, 29, 51, 76};
    private static final int[] MOSTS = {28, 50, 75, 250};
    private static final int[] STAMPS = {1, 3, 6, 12};

    private static final Check check = new Check();

    public static void main(String[] args) {
        measureBrewIsThere();
        measureStrength0To250();
        measureBeforeItIsRipe();
        measureOneThatIsGone();
        measureClasses();
        measureAboveTheLabelsVoids();
        measureNotAboveTheLabelsDoesNot();
        measureAboveTheStampsIsOwed();
        measureNotAboveTheStampsIsNot();
        measureOwesOnce();
        measureOwesForEachBottleByItsOwnClass();
        blendBrewsAreThere();
        blendBothAreOne();
        blendLitres1To1000();
        blendTheOtherHasNotSoMuch();
        blendTheTankDoesNotHoldIt();
        blendOneIsNotRipe();
        blendOneIsGone();
        blendIsRoundedDown();
        blendCountsAsMeasuredIfBothWere();
        blendMeasuredAboveVoidsAndOwes();
        blendMeasuredNotAboveDoesNot();
        blendForetoldDoesNot();
        blendForetoldIsNotMeasuredAfterIt();
        blendOfOneBroughtBackDoesNot();
        blendLeavesTheOtherAsItWas();
        classAnewBrewIsThere();
        classAnewAtTheClasses();
        classAnewOfMeasures();
        classAnewOfBlends();
        classAnewInTheOrderInWhichItWasTold();
        classAnewByTheLitresOfThen();
        classAnewOfOneThatIsGone();
        classAnewOfAll20();
        classAnewAsThe512thCall();
        check.end();
    }

    private static void measureBrewIsThere() {
        Cellarscheduler x = Cellars.two(10, 20, 10, 20);
        x.measure(0, 76);
        check.due("strength of the first", 76, x.ofBrew(0, Cellars.STRENGTH));
        check.due("strength of the last, as it was", 20, x.ofBrew(1, Cellars.STRENGTH));
        x.measure(1, 29);
        check.due("strength of the last", 29, x.ofBrew(1, Cellars.STRENGTH));
        check.noSuch("measure the next", () -> x.measure(2, 20));
        check.noSuch("measure -1", () -> x.measure(-1, 20));
        check.noSuch("measure the least", () -> x.measure(Integer.MIN_VALUE, 20));
        check.noSuch("measure the greatest", () -> x.measure(Integer.MAX_VALUE, 20));
    }

    private static void measureStrength0To250() {
        Cellarscheduler x = Cellars.ripe(10, 100);
        check.due("measure 0", 0, x.measure(0, 0));
        check.due("strength 0", 0, x.ofBrew(0, Cellars.STRENGTH));
        check.outOfRange("measure -1", () -> x.measure(0, -1));
        check.outOfRange("measure 251", () -> x.measure(0, 251));
        check.outOfRange("measure the least", () -> x.measure(0, Integer.MIN_VALUE));
        check.outOfRange("measure the greatest", () -> x.measure(0, Integer.MAX_VALUE));
        check.due("strength 0 still", 0, x.ofBrew(0, Cellars.STRENGTH));
        check.due("measure 250", 0, x.measure(0, 250));
        check.due("strength 250", 250, x.ofBrew(0, Cellars.STRENGTH));
    }

    private static void measureBeforeItIsRipe() {
        Cellarscheduler x = new Cellarscheduler();
        x.brew(0, 10, 60, 2);
        x.print(0, 5);
        check.due("measure on the first day", 0, x.measure(0, 29));
        check.due("its strength", 29, x.ofBrew(0, Cellars.STRENGTH));
        check.due("its labels are void", 5, x.ofBrew(0, Cellars.VOID));
    }

    private static void measureOneThatIsGone() {
        Cellarscheduler x = Cellars.ripe(10, 28);
        x.print(0, 15);
        x.bottle(0, 10);
        check.due("measure one that is gone", 20, x.measure(0, 29));
        check.due("its strength", 29, x.ofBrew(0, Cellars.STRENGTH));
        check.due("its labels are void", 5, x.ofBrew(0, Cellars.VOID));
        check.due("none are left", 0, x.ofBrew(0, Cellars.LABELS));
        check.due("it is gone still", 2, x.ofBrew(0, Cellars.STATE));
        check.due("its tank is empty still", Cellarscheduler.NONE, x.inTank(0));
    }

    private static void measureClasses() {
        Cellarscheduler x = Cellars.ripe(10, 28);
        for (int itsClass = 0; itsClass < 4; itsClass++) {
            x.measure(0, LEASTS[itsClass]);
            check.due("class of " + LEASTS[itsClass], itsClass, x.ofBrew(0, Cellars.CLASS));
            x.measure(0, MOSTS[itsClass]);
            check.due("class of " + MOSTS[itsClass], itsClass, x.ofBrew(0, Cellars.CLASS));
        }
    }

    private static void measureAboveTheLabelsVoids() {
        for (int printed = 0; printed < 4; printed++) {
            for (int above = printed + 1; above < 4; above++) {
                Cellarscheduler x = Cellars.ripe(10, MOSTS[printed]);
                x.print(0, 7);
                x.measure(0, LEASTS[above]);
                check.due("labels of " + printed + " by a measure of " + above, 0, x.ofBrew(0, Cellars.LABELS));
                check.due("void by that", 7, x.ofBrew(0, Cellars.VOID));
            }
        }
    }

    private static void measureNotAboveTheLabelsDoesNot() {
        for (int printed = 0; printed < 4; printed++) {
            for (int other = 0; other <= printed; other++) {
                Cellarscheduler x = Cellars.ripe(10, LEASTS[printed]);
                x.print(0, 7);
                x.measure(0, MOSTS[other]);
                check.due("labels of " + printed + " by a measure of " + other, 7, x.ofBrew(0, Cellars.LABELS));
                check.due("void by that", 0, x.ofBrew(0, Cellars.VOID));
            }
        }
    }

    private static void measureAboveTheStampsIsOwed() {
        for (int stamped = 0; stamped < 4; stamped++) {
            for (int above = stamped + 1; above < 4; above++) {
                Cellarscheduler x = Cellars.bottled(MOSTS[stamped], 10);
                int due = 10 * (STAMPS[above] - STAMPS[stamped]);
                check.due("bottles of " + stamped + " by a measure of " + above, due, x.measure(0, LEASTS[above]));
                check.due("owed", due, x.owed());
                check.due("bottles are as many", 10, x.ofBrew(0, Cellars.BOTTLES));
            }
        }
    }

    private static void measureNotAboveTheStampsIsNot() {
        for (int stamped = 0; stamped < 4; stamped++) {
            for (int other = 0; other <= stamped; other++) {
                Cellarscheduler x = Cellars.bottled(LEASTS[stamped], 10);
                check.due("bottles of " + stamped + " by a measure of " + other, 0, x.measure(0, MOSTS[other]));
                check.due("owed", 0, x.owed());
            }
        }
    }

    private static void measureOwesOnce() {
        Cellarscheduler x = Cellars.bottled(28, 10);
        check.due("to class 1", 20, x.measure(0, 29));
        check.due("class 1 again", 0, x.measure(0, 29));
        check.due("back to class 0", 0, x.measure(0, 0));
        check.due("class 1 once more", 0, x.measure(0, 50));
        check.due("to class 3, from 1", 90, x.measure(0, 76));
        check.due("class 2 after it", 0, x.measure(0, 51));
        check.due("class 3 again", 0, x.measure(0, 250));
        check.due("owed", 110, x.owed());
        x.pay(110);
        check.due("class 3, when it is paid", 0, x.measure(0, 76));
    }

    private static void measureOwesForEachBottleByItsOwnClass() {
        Cellarscheduler x = Cellars.ripe(1000, 0);
        // From the class 3 down, as a measure above would count them anew.
        for (int itsClass = 3; itsClass >= 0; itsClass--) {
            x.measure(0, LEASTS[itsClass]);
            x.print(0, 100);
            x.bottle(0, 1 << itsClass);
        }
        check.due("1 of 0 to class 1", 2, x.measure(0, 29));
        check.due("3 of 1 to class 2", 9, x.measure(0, 51));
        check.due("7 of 2 to class 3", 42, x.measure(0, 76));
        check.due("15 of 3", 0, x.measure(0, 250));
        check.due("bottles", 15, x.ofBrew(0, Cellars.BOTTLES));
    }

    private static void blendBrewsAreThere() {
        Cellarscheduler x = Cellars.two(10, 20, 10, 20);
        check.due("the last to the first", 20, x.blend(0, 1, 1));
        check.due("the first to the last", 20, x.blend(1, 0, 1));
        check.noSuch("to the next", () -> x.blend(2, 0, 1));
        check.noSuch("of the next", () -> x.blend(0, 2, 1));
        check.noSuch("to -1", () -> x.blend(-1, 0, 1));
        check.noSuch("of -1", () -> x.blend(0, -1, 1));
        check.noSuch("to the least", () -> x.blend(Integer.MIN_VALUE, 0, 1));
        check.noSuch("of the greatest", () -> x.blend(0, Integer.MAX_VALUE, 1));
        check.noSuch("of the next to itself", () -> x.blend(2, 2, 1));
    }

    private static void blendBothAreOne() {
        Cellarscheduler x = Cellars.two(10, 20, 10, 20);
        check.outOfRange("the first to itself", () -> x.blend(0, 0, 1));
        check.outOfRange("the last to itself", () -> x.blend(1, 1, 1));
    }

    private static void blendLitres1To1000() {
        Cellarscheduler x = Cellars.two(1, 20, 1000, 20);
        check.outOfRange("blend 0", () -> x.blend(0, 1, 0));
        check.outOfRange("blend -1", () -> x.blend(0, 1, -1));
        check.outOfRange("blend 1001", () -> x.blend(0, 1, 1001));
        check.outOfRange("blend the least", () -> x.blend(0, 1, Integer.MIN_VALUE));
        check.outOfRange("blend the most", () -> x.blend(0, 1, Integer.MAX_VALUE));
        check.notNow("blend 1000, which is no wrong number, but no tank holds it", () -> x.blend(0, 1, 1000));
        check.due("blend 1", 20, x.blend(0, 1, 1));
        Cellarscheduler y = Cellars.two(1, 20, 1000, 20);
        check.due("blend 999", 20, y.blend(0, 1, 999));
    }

    private static void blendTheOtherHasNotSoMuch() {
        Cellarscheduler x = Cellars.two(10, 20, 5, 20);
        check.notNow("6 of 5", () -> x.blend(0, 1, 6));
        check.due("litres of the other, as they were", 5, x.ofBrew(1, Cellars.LITRES));
        check.due("5 of 5", 20, x.blend(0, 1, 5));
        check.due("litres of the one", 15, x.ofBrew(0, Cellars.LITRES));
        check.due("litres of the other", 0, x.ofBrew(1, Cellars.LITRES));
    }

    private static void blendTheTankDoesNotHoldIt() {
        Cellarscheduler x = Cellars.two(600, 20, 500, 20);
        check.notNow("401 to 600", () -> x.blend(0, 1, 401));
        check.due("litres of the one, as they were", 600, x.ofBrew(0, Cellars.LITRES));
        check.due("400 to 600", 20, x.blend(0, 1, 400));
        check.due("a full tank", 1000, x.ofBrew(0, Cellars.LITRES));
        check.notNow("1 to 1000", () -> x.blend(0, 1, 1));
        x.print(0, 1);
        x.bottle(0, 1);
        check.notNow("2 to 999", () -> x.blend(0, 1, 2));
        check.due("1 to 999", 20, x.blend(0, 1, 1));
    }

    private static void blendOneIsNotRipe() {
        Cellarscheduler x = new Cellarscheduler();
        x.brew(0, 10, 60, 0);
        x.brew(1, 10, 60, 1);
        x.pass(6);
        check.notNow("of one that is ripe to one that is not", () -> x.blend(1, 0, 1));
        check.notNow("of one that is not ripe to one that is", () -> x.blend(0, 1, 1));
        x.pass(1);
        check.due("of one to the other", 22, x.blend(1, 0, 1));
        check.due("of the other to the one", 23, x.blend(0, 1, 1));
    }

    private static void blendOneIsGone() {
        Cellarscheduler x = Cellars.two(10, 20, 2, 20);
        x.blend(0, 1, 1);
        check.due("to one that has a litre left", 20, x.blend(1, 0, 1));
        x.blend(0, 1, 2);
        check.notNow("to one that is gone", () -> x.blend(1, 0, 1));
        check.notNow("of one that is gone", () -> x.blend(0, 1, 1));
    }

    private static void blendIsRoundedDown() {
        check.due("a half", 28, Cellars.two(1, 28, 1, 29).blend(0, 1, 1));
        check.due("999 thousandths", 28, Cellars.two(1, 28, 999, 29).blend(0, 1, 999));
        check.due("a thousandth", 28, Cellars.two(999, 28, 1, 29).blend(0, 1, 1));
        check.due("nothing to round", 28, Cellars.two(1, 27, 1, 29).blend(0, 1, 1));
        check.due("two thirds", 27, Cellars.two(1, 28, 2, 27).blend(0, 1, 2));
        check.due("the least of all", 0, Cellars.two(500, 0, 500, 0).blend(0, 1, 500));
        check.due("the greatest of all", 250, Cellars.two(500, 250, 500, 250).blend(0, 1, 500));
        check.due("nearly the least", 0, Cellars.two(1, 1, 1, 0).blend(0, 1, 1));
        check.due("nearly the greatest", 249, Cellars.two(1, 250, 1, 249).blend(0, 1, 1));
    }

    /** Two ripe brews, of the strengths 49 and 24 as foretold, each of which may have been measured so. */
    private static Cellarscheduler asForetold(boolean isMeasured, boolean isOtherMeasured) {
        Cellarscheduler x = new Cellarscheduler();
        x.brew(0, 10, 120, 0);
        x.brew(1, 10, 60, 0);
        x.pass(4);
        if (isMeasured) {
            x.measure(0, 49);
        }
        if (isOtherMeasured) {
            x.measure(1, 24);
        }
        return x;
    }

    private static void blendCountsAsMeasuredIfBothWere() {
        for (int which = 0; which < 4; which++) {
            Cellarscheduler x = asForetold((which & 1) != 0, (which & 2) != 0);
            check.due("strength by any of them, " + which, 36, x.blend(0, 1, 10));
            check.due("measured only if both were, " + which, which == 3 ? 1 : 0, x.ofBrew(0, Cellars.MEASURED));
        }
    }

    /** Two ripe brews: some of the first was bottled, and it has labels left; the other is of strength 250. */
    private static Cellarscheduler labelled(int strength, boolean isOtherMeasured) {
        Cellarscheduler x = new Cellarscheduler();
        x.brew(0, 110, 60, 0);
        x.brew(1, 1000, 300, 0);
        x.pass(4);
        x.measure(0, strength);
        x.print(0, 17);
        x.bottle(0, 10);
        if (isOtherMeasured) {
            x.measure(1, 250);
        }
        return x;
    }

    private static void blendMeasuredAboveVoidsAndOwes() {
        Cellarscheduler x = labelled(28, true);
        check.due("a class above", 30, x.blend(0, 1, 1));
        check.due("owed", 20, x.owed());
        check.due("void", 7, x.ofBrew(0, Cellars.VOID));
        check.due("left", 0, x.ofBrew(0, Cellars.LABELS));
        check.due("owed once", 0, x.measure(0, 29));
        check.due("of the class above", 90, x.measure(0, 76));
    }

    private static void blendMeasuredNotAboveDoesNot() {
        Cellarscheduler x = labelled(26, true);
        check.due("the greatest of the class", 28, x.blend(0, 1, 1));
        check.due("owed, of the same class", 0, x.owed());
        check.due("void, of the same class", 0, x.ofBrew(0, Cellars.VOID));
        Cellarscheduler y = labelled(29, true);
        y.measure(1, 0);
        check.due("a class below", 28, y.blend(0, 1, 1));
        check.due("owed, of a class below", 0, y.owed());
        check.due("void, of a class below", 0, y.ofBrew(0, Cellars.VOID));
        check.due("left, of a class below", 7, y.ofBrew(0, Cellars.LABELS));
        check.notNow("they do not do for it", () -> y.bottle(0, 1));
    }

    private static void blendForetoldDoesNot() {
        Cellarscheduler x = labelled(28, false);
        check.due("a class above", (28 * 100 + 123 * 2) / 102, x.blend(0, 1, 2));
        check.due("its class", 1, x.ofBrew(0, Cellars.CLASS));
        check.due("owed", 0, x.owed());
        check.due("void", 0, x.ofBrew(0, Cellars.VOID));
        check.due("left", 7, x.ofBrew(0, Cellars.LABELS));
        check.notNow("they do not do for it", () -> x.bottle(0, 1));
        check.due("a measure of the class of the blend owes", 20, x.measure(0, 29));
        check.due("and voids", 7, x.ofBrew(0, Cellars.VOID));
        Cellarscheduler y = labelled(28, false);
        y.blend(0, 1, 2);
        y.measure(0, 28);
        check.due("the labels do again for their class", 7, y.bottle(0, 7));
    }

    private static void blendForetoldIsNotMeasuredAfterIt() {
        Cellarscheduler x = asForetold(true, false);
        x.brew(2, 100, 60, 0);
        x.pass(4);
        x.measure(2, 0);
        x.blend(0, 1, 1);
        check.due("foretold, though it was measured before", 0, x.ofBrew(0, Cellars.MEASURED));
        x.blend(0, 2, 1);
        check.due("foretold with measured", 0, x.ofBrew(0, Cellars.MEASURED));
        x.blend(2, 0, 1);
        check.due("measured with foretold", 0, x.ofBrew(2, Cellars.MEASURED));
        x.measure(0, 30);
        check.due("measured again", 1, x.ofBrew(0, Cellars.MEASURED));
        x.measure(2, 40);
        x.blend(0, 2, 1);
        check.due("measured with measured", 1, x.ofBrew(0, Cellars.MEASURED));
    }

    // "otherwise as foretold, which changes nothing of labels and bottles"; "2 its strength; 3 whether that was measured".
    private static void blendOfOneBroughtBackDoesNot() {
        Cellarscheduler x = labelled(28, false);
        check.due("measured with foretold", 28, x.blend(0, 1, 1));
        x.measure(1, 250);
        check.due("brought back, with measured", 30, x.blend(0, 1, 1));
        check.due("it is foretold", 0, x.ofBrew(0, Cellars.MEASURED));
        changedNothingOfLabelsAndBottles("of one brought back", x);

        Cellarscheduler y = labelled(28, true);
        y.brew(2, 1, 300, 0);
        y.pass(4);
        y.print(1, 1);
        y.bottle(1, 1);
        check.due("the other is brought back", 249, y.blend(1, 2, 1));
        check.due("with the other brought back", 30, y.blend(0, 1, 1));
        check.due("it is foretold with that", 0, y.ofBrew(0, Cellars.MEASURED));
        changedNothingOfLabelsAndBottles("with the other brought back", y);
    }

    private static void changedNothingOfLabelsAndBottles(String call, Cellarscheduler x) {
        check.due("owed, " + call, 0, x.owed());
        check.due("void, " + call, 0, x.ofBrew(0, Cellars.VOID));
        check.due("left, " + call, 7, x.ofBrew(0, Cellars.LABELS));
        check.due("a measure of its class owes, " + call, 20, x.measure(0, 30));
    }

    private static void blendLeavesTheOtherAsItWas() {
        Cellarscheduler x = Cellars.two(100, 250, 100, 20);
        x.print(1, 20);
        x.bottle(1, 10);
        x.blend(0, 1, 89);
        check.due("a litre is left of the other", 1, x.ofBrew(1, Cellars.LITRES));
        check.due("its strength", 20, x.ofBrew(1, Cellars.STRENGTH));
        check.due("it is measured", 1, x.ofBrew(1, Cellars.MEASURED));
        check.due("its labels", 10, x.ofBrew(1, Cellars.LABELS));
        check.due("its bottles", 10, x.ofBrew(1, Cellars.BOTTLES));
        check.due("none of them void", 0, x.ofBrew(1, Cellars.VOID));
        check.due("nothing is owed", 0, x.owed());
        check.due("its class anew", 0, x.classAnew(1));
        check.due("no bottle came with the litres", 0, x.ofBrew(0, Cellars.BOTTLES));
        check.due("no label came with the litres", 0, x.ofBrew(0, Cellars.LABELS));
        check.due("its text", 0, x.label(0, 0));
    }

    private static void classAnewBrewIsThere() {
        Cellarscheduler x = Cellars.two(10, 28, 10, 76);
        check.due("class of the first", 0, x.classAnew(0));
        check.due("class of the last", 3, x.classAnew(1));
        check.noSuch("class of the next", () -> x.classAnew(2));
        check.noSuch("class of -1", () -> x.classAnew(-1));
        check.noSuch("class of the least", () -> x.classAnew(Integer.MIN_VALUE));
        check.noSuch("class of the greatest", () -> x.classAnew(Integer.MAX_VALUE));
        check.noSuch("class of the 21st", () -> x.classAnew(20));
    }

    private static void classAnewAtTheClasses() {
        Cellarscheduler x = Cellars.ripe(10, 28);
        for (int itsClass = 0; itsClass < 4; itsClass++) {
            x.measure(0, LEASTS[itsClass]);
            check.due("class anew of " + LEASTS[itsClass], itsClass, x.classAnew(0));
            x.measure(0, MOSTS[itsClass]);
            check.due("class anew of " + MOSTS[itsClass], itsClass, x.classAnew(0));
        }
    }

    private static void classAnewOfMeasures() {
        Cellarscheduler x = Cellars.ripe(10, 76);
        check.due("measured once", 3, x.classAnew(0));
        x.measure(0, 28);
        check.due("measured last, less", 0, x.classAnew(0));
        x.measure(0, 51);
        check.due("measured last, more", 2, x.classAnew(0));
        check.due("asked again", 2, x.classAnew(0));
    }

    private static void classAnewOfBlends() {
        Cellarscheduler measured = Cellars.two(10, 28, 10, 30);
        check.due("measured, to the least of a class", 29, measured.blend(0, 1, 10));
        check.due("class anew of that", 1, measured.classAnew(0));
        Cellarscheduler below = Cellars.two(10, 28, 10, 29);
        check.due("measured, to the greatest of a class", 28, below.blend(0, 1, 10));
        check.due("class anew of that", 0, below.classAnew(0));
        Cellarscheduler foretold = asForetold(false, false);
        check.due("foretold", 36, foretold.blend(1, 0, 10));
        check.due("class anew of that", 1, foretold.classAnew(1));
        Cellarscheduler mixed = asForetold(true, false);
        mixed.measure(0, 250);
        check.due("of measured and foretold", 137, mixed.blend(0, 1, 10));
        check.due("class anew of that", 3, mixed.classAnew(0));
        mixed.measure(0, 50);
        check.due("measured after a blend", 1, mixed.classAnew(0));
    }

    private static void classAnewInTheOrderInWhichItWasTold() {
        Cellarscheduler x = Cellars.two(10, 20, 20, 60);
        x.blend(0, 1, 10);
        x.measure(1, 250);
        check.due("by the other's strength of then", 1, x.classAnew(0));
        x.measure(0, 20);
        x.blend(1, 0, 20);
        x.measure(0, 76);
        check.due("of the other, by the strength of then", 3, x.classAnew(1));
        check.due("its strength", (250 * 10 + 20 * 20) / 30, x.ofBrew(1, Cellars.STRENGTH));
        Cellarscheduler y = Cellars.two(100, 0, 100, 100);
        y.blend(0, 1, 50);
        y.blend(1, 0, 50);
        y.blend(0, 1, 50);
        check.due("to and fro", 44, y.ofBrew(0, Cellars.STRENGTH));
        check.due("class anew, to and fro", 1, y.classAnew(0));
        check.due("class anew of the other", 2, y.classAnew(1));
    }

    private static void classAnewByTheLitresOfThen() {
        Cellarscheduler x = Cellars.two(1000, 0, 1000, 100);
        x.print(0, 1000);
        x.bottle(0, 900);
        check.due("100 and 300 litres", 75, x.blend(0, 1, 300));
        check.due("class anew of that", 2, x.classAnew(0));
        x.print(0, 1000);
        x.bottle(0, 399);
        check.due("when a litre is left", 2, x.classAnew(0));
        check.due("1 and 50 litres", 99, x.blend(0, 1, 50));
        check.due("class anew after it", 3, x.classAnew(0));
    }

    private static void classAnewOfOneThatIsGone() {
        Cellarscheduler x = Cellars.two(10, 20, 10, 60);
        x.blend(0, 1, 10);
        check.due("class anew of one that is gone", 2, x.classAnew(1));
        x.brew(1, 10, 300, 0);
        check.due("when another is in its tank", 2, x.classAnew(1));
        check.due("class anew of the other", 3, x.classAnew(2));
        x.measure(1, 28);
        check.due("measured when it is gone", 0, x.classAnew(1));
    }

    private static void classAnewOfAll20() {
        Cellarscheduler x = Cellars.begun(20);
        int[] strengths = {28, 29, 51, 76};
        for (int brew = 0; brew < 20; brew++) {
            x.measure(brew, strengths[brew % 4]);
        }
        for (int brew = 0; brew < 20; brew++) {
            check.due("class anew of brew " + brew, brew % 4, x.classAnew(brew));
        }
    }

    private static void classAnewAsThe512thCall() {
        Cellarscheduler measured = Cellars.ripe(10, 100);
        for (int call = 4; call < 511; call++) {
            measured.measure(0, 100);
        }
        measured.measure(0, 28);
        check.due("the 512th call, after 511 others", 0, measured.classAnew(0));

        Cellarscheduler blended = Cellars.two(10, 100, 990, 0);
        for (int call = 6; call < 511; call++) {
            blended.measure(0, 100);
        }
        check.due("the 511th call", 1, blended.blend(0, 1, 990));
        check.due("the 512th call, after a blend", 0, blended.classAnew(0));
    }
}
