/** The boundaries that promises 4, 5 and 6 name, of labels and bottles, with what the Terms say of them. */
public final class LabelBoundaryTest {
    private static final Check check = new Check();

    public static void main(String[] args) {
        printBrewIsThere();
        printMany1To1000();
        printAtMost2000();
        printVoidLabelsDoNotCount();
        printBottledLabelsDoNotCount();
        printOthersOfAnotherClassVoids();
        printOthersOfTheClassDoesNot();
        printAfterAForetoldBlend();
        printAnyTimeBeforeItIsGone();
        printGoneByBlending();
        labelBrewIsThere();
        labelPlaceFrom0();
        labelA0BehindTheLastOne();
        labelA0IfNoneWerePrinted();
        labelStrongFromTheClass2On();
        labelStrengthAsText();
        labelTankNumbers();
        labelForTheStrengthOfThen();
        labelAlsoIfNoneAreLeft();
        labelAlsoIfTheyAreVoid();
        labelNotOfARefusedPrint();
        bottleBrewIsThere();
        bottleMany1To1000();
        bottleNotSoManyLitres();
        bottleNotSoManyLabels();
        bottleVoidLabelsDoNotDo();
        bottleLabelsOfItsClass();
        bottleStamps();
        bottleTellsLabelsLitresBottles();
        bottleGone();
        check.end();
    }

    private static void printBrewIsThere() {
        Cellarscheduler x = Cellars.two(10, 20, 10, 20);
        check.due("print for the first", 1, x.print(0, 1));
        check.due("print for the last", 1, x.print(1, 1));
        check.noSuch("print for the next", () -> x.print(2, 1));
        check.noSuch("print for -1", () -> x.print(-1, 1));
        check.noSuch("print for the least", () -> x.print(Integer.MIN_VALUE, 1));
        check.noSuch("print for the greatest", () -> x.print(Integer.MAX_VALUE, 1));
    }

    private static void printMany1To1000() {
        Cellarscheduler x = Cellars.two(10, 20, 10, 20);
        check.due("print 1", 1, x.print(0, 1));
        check.due("print 1000", 1000, x.print(1, 1000));
        check.outOfRange("print 0", () -> x.print(0, 0));
        check.outOfRange("print -1", () -> x.print(0, -1));
        check.outOfRange("print 1001", () -> x.print(0, 1001));
        check.outOfRange("print the least", () -> x.print(0, Integer.MIN_VALUE));
        check.outOfRange("print the most", () -> x.print(0, Integer.MAX_VALUE));
        check.due("labels after all that", 1, x.ofBrew(0, Cellars.LABELS));
    }

    private static void printAtMost2000() {
        Cellarscheduler x = Cellars.two(10, 20, 10, 20);
        x.print(0, 1000);
        check.due("2000", 2000, x.print(0, 1000));
        check.notNow("2001, by 1", () -> x.print(0, 1));
        check.notNow("3000", () -> x.print(0, 1000));
        check.due("2000 still", 2000, x.ofBrew(0, Cellars.LABELS));
        check.due("none is void by that", 0, x.ofBrew(0, Cellars.VOID));
        x.print(1, 1000);
        x.print(1, 1);
        check.notNow("2001, by 1000", () -> x.print(1, 1000));
        check.due("2000, by 999", 2000, x.print(1, 999));
    }

    private static void printVoidLabelsDoNotCount() {
        Cellarscheduler x = Cellars.ripe(10, 28);
        x.print(0, 1000);
        x.print(0, 1000);
        x.measure(0, 29);
        check.due("1000 beside 2000 that are void", 1000, x.print(0, 1000));
        check.due("2000 beside 2000 that are void", 2000, x.print(0, 1000));
        check.notNow("2001 beside 2000 that are void", () -> x.print(0, 1));
        check.due("void", 2000, x.ofBrew(0, Cellars.VOID));
    }

    private static void printBottledLabelsDoNotCount() {
        Cellarscheduler x = Cellars.ripe(10, 28);
        x.print(0, 1000);
        x.print(0, 1000);
        x.bottle(0, 1);
        check.notNow("2 more, after 1 was bottled", () -> x.print(0, 2));
        check.due("1 more, after 1 was bottled", 2000, x.print(0, 1));
    }

    private static void printOthersOfAnotherClassVoids() {
        int[] strengths = {0, 28, 29, 50, 51, 75, 76, 250};
        for (int i = 0; i < strengths.length; i++) {
            for (int j = 0; j < i; j++) {
                Cellarscheduler x = Cellars.ripe(10, strengths[i]);
                x.print(0, 1000);
                x.print(0, 1000);
                x.measure(0, strengths[j]);
                check.due("a class below voids nothing yet", 2000, x.ofBrew(0, Cellars.LABELS));
                if (i / 2 == j / 2) {
                    check.notNow("2001 of the class", () -> x.print(0, 1));
                } else {
                    check.due("1 of the class below", 1, x.print(0, 1));
                    check.due("2000 are void", 2000, x.ofBrew(0, Cellars.VOID));
                    x.measure(0, strengths[i]);
                    check.due("void ones do not come back", 0, x.ofBrew(0, Cellars.LABELS));
                    check.due("2001 are void", 2001, x.ofBrew(0, Cellars.VOID));
                }
            }
        }
    }

    private static void printOthersOfTheClassDoesNot() {
        Cellarscheduler x = Cellars.ripe(10, 29);
        x.print(0, 5);
        x.measure(0, 50);
        check.due("another strength of the class, above", 8, x.print(0, 3));
        x.measure(0, 29);
        check.due("another strength of the class, below", 9, x.print(0, 1));
        check.due("none is void", 0, x.ofBrew(0, Cellars.VOID));
        check.due("all are of the class of the brew", 27, x.bottle(0, 9));
    }

    private static void printAfterAForetoldBlend() {
        Cellarscheduler x = new Cellarscheduler();
        x.brew(0, 100, 60, 0);
        x.brew(1, 100, 300, 0);
        x.pass(4);
        x.print(0, 1000);
        x.print(0, 1000);
        check.due("foretold, of a class above", 73, x.blend(0, 1, 100));
        check.due("labels stay", 2000, x.ofBrew(0, Cellars.LABELS));
        check.due("others of another class", 2, x.print(0, 2));
        check.due("void now", 2000, x.ofBrew(0, Cellars.VOID));
    }

    private static void printAnyTimeBeforeItIsGone() {
        Cellarscheduler x = new Cellarscheduler();
        x.brew(0, 2, 60, 2);
        check.due("print on the first day", 1, x.print(0, 1));
        x.pass(11);
        check.due("print a day before it is ripe", 2, x.print(0, 1));
        x.pass(1);
        check.due("print when it is ripe", 3, x.print(0, 1));
        x.bottle(0, 1);
        check.due("print when a litre is left", 3, x.print(0, 1));
        x.bottle(0, 1);
        check.notNow("print when it is gone", () -> x.print(0, 1));
        check.due("labels of one that is gone", 2, x.ofBrew(0, Cellars.LABELS));
    }

    private static void printGoneByBlending() {
        Cellarscheduler x = Cellars.two(10, 20, 2, 20);
        x.blend(0, 1, 1);
        check.due("print for one that gave all but a litre", 1, x.print(1, 1));
        x.blend(0, 1, 1);
        check.notNow("print for one that gave all", () -> x.print(1, 1));
        check.due("its label stays", 1, x.ofBrew(1, Cellars.LABELS));
        check.due("and is not void", 0, x.ofBrew(1, Cellars.VOID));
        x.measure(1, 28);
        check.due("nor by a measure of its class", 0, x.ofBrew(1, Cellars.VOID));
        x.measure(1, 29);
        check.due("but by one of a class above", 1, x.ofBrew(1, Cellars.VOID));
        check.due("none is left", 0, x.ofBrew(1, Cellars.LABELS));
    }

    private static void labelBrewIsThere() {
        Cellarscheduler x = Cellars.two(10, 20, 10, 20);
        x.print(0, 1);
        check.due("label of the first", 'A', x.label(0, 0));
        check.due("label of the last", 0, x.label(1, 0));
        check.noSuch("label of the next", () -> x.label(2, 0));
        check.noSuch("label of -1", () -> x.label(-1, 0));
        check.noSuch("label of the least", () -> x.label(Integer.MIN_VALUE, 0));
        check.noSuch("label of the greatest", () -> x.label(Integer.MAX_VALUE, 0));
    }

    private static void labelPlaceFrom0() {
        Cellarscheduler x = Cellars.ripe(10, 51);
        check.noSuch("place -1, when none were printed", () -> x.label(0, -1));
        x.print(0, 1);
        check.due("place 0", 'S', x.label(0, 0));
        check.noSuch("place -1", () -> x.label(0, -1));
        check.noSuch("the least place", () -> x.label(0, Integer.MIN_VALUE));
    }

    private static void labelA0BehindTheLastOne() {
        Cellarscheduler x = Cellars.ripe(10, 250);
        x.print(0, 1);
        String text = "STRONG ALE 25.0% OF TANK 0";
        check.due("the last sign", '0', x.label(0, text.length() - 1));
        check.due("behind the last one", 0, x.label(0, text.length()));
        check.due("far behind the last one", 0, x.label(0, 1000));
        check.due("at the greatest place", 0, x.label(0, Integer.MAX_VALUE));
        x.measure(0, 9);
        x.print(0, 1);
        check.due("behind a shorter one", 0, x.label(0, "ALE 0.9% OF TANK 0".length()));
        check.due("where the longer one ended", 0, x.label(0, text.length() - 1));
    }

    private static void labelA0IfNoneWerePrinted() {
        Cellarscheduler x = Cellars.two(10, 20, 10, 20);
        x.print(1, 1);
        check.due("place 0", 0, x.label(0, 0));
        check.due("place 1", 0, x.label(0, 1));
        check.due("the greatest place", 0, x.label(0, Integer.MAX_VALUE));
    }

    private static String printed(int tank, int strength) {
        Cellarscheduler x = new Cellarscheduler();
        x.brew(tank, 10, 100, 0);
        x.measure(0, strength);
        x.print(0, 1);
        return Cellars.text(x, 0);
    }

    private static void labelStrongFromTheClass2On() {
        check.due("class 0", "ALE 2.8% OF TANK 1", printed(1, 28));
        check.due("class 1, the least", "ALE 2.9% OF TANK 1", printed(1, 29));
        check.due("class 1, the greatest", "ALE 5.0% OF TANK 1", printed(1, 50));
        check.due("class 2, the least", "STRONG ALE 5.1% OF TANK 1", printed(1, 51));
        check.due("class 2, the greatest", "STRONG ALE 7.5% OF TANK 1", printed(1, 75));
        check.due("class 3", "STRONG ALE 7.6% OF TANK 1", printed(1, 76));
    }

    private static void labelStrengthAsText() {
        check.due("nothing", "ALE 0.0% OF TANK 1", printed(1, 0));
        check.due("less than a percent", "ALE 0.9% OF TANK 1", printed(1, 9));
        check.due("a percent", "ALE 1.0% OF TANK 1", printed(1, 10));
        check.due("as the document has it", "ALE 4.8% OF TANK 1", printed(1, 48));
        check.due("the last of two signs", "STRONG ALE 9.9% OF TANK 1", printed(1, 99));
        check.due("the first of three signs", "STRONG ALE 10.0% OF TANK 1", printed(1, 100));
        check.due("the greatest", "STRONG ALE 25.0% OF TANK 1", printed(1, 250));
    }

    private static void labelTankNumbers() {
        for (int tank = 0; tank < 8; tank++) {
            check.due("tank " + tank, "ALE 4.8% OF TANK " + tank, printed(tank, 48));
        }
    }

    private static void labelForTheStrengthOfThen() {
        Cellarscheduler x = new Cellarscheduler();
        x.brew(2, 100, 120, 0);
        x.brew(3, 100, 60, 0);
        x.print(0, 1);
        check.due("as foretold", "ALE 4.9% OF TANK 2", Cellars.text(x, 0));
        x.measure(0, 40);
        check.due("not of a measure since then", "ALE 4.9% OF TANK 2", Cellars.text(x, 0));
        x.print(0, 1);
        check.due("as measured, of the same class", "ALE 4.0% OF TANK 2", Cellars.text(x, 0));
        x.pass(4);
        x.blend(0, 1, 100);
        check.due("not of a blend since then", "ALE 4.0% OF TANK 2", Cellars.text(x, 0));
        x.print(0, 1);
        check.due("as blended", "ALE 3.2% OF TANK 2", Cellars.text(x, 0));
    }

    private static void labelAlsoIfNoneAreLeft() {
        Cellarscheduler x = Cellars.ripe(10, 28);
        x.print(0, 5);
        x.bottle(0, 5);
        check.due("no label is left", 0, x.ofBrew(0, Cellars.LABELS));
        check.due("its text", "ALE 2.8% OF TANK 0", Cellars.text(x, 0));
        x.print(0, 5);
        x.bottle(0, 5);
        check.due("the text of one that is gone", "ALE 2.8% OF TANK 0", Cellars.text(x, 0));
    }

    private static void labelAlsoIfTheyAreVoid() {
        Cellarscheduler x = Cellars.ripe(10, 28);
        x.print(0, 5);
        x.measure(0, 76);
        check.due("all are void", 5, x.ofBrew(0, Cellars.VOID));
        check.due("its text", "ALE 2.8% OF TANK 0", Cellars.text(x, 0));
    }

    private static void labelNotOfARefusedPrint() {
        Cellarscheduler x = Cellars.ripe(10, 28);
        x.print(0, 1000);
        x.print(0, 1000);
        x.measure(0, 20);
        check.notNow("2001", () -> x.print(0, 1));
        check.outOfRange("1001", () -> x.print(0, 1001));
        check.due("text of the last that was not refused", "ALE 2.8% OF TANK 0", Cellars.text(x, 0));
    }

    private static void bottleBrewIsThere() {
        Cellarscheduler x = Cellars.two(10, 20, 10, 20);
        x.print(0, 5);
        x.print(1, 5);
        check.due("bottle the first", 1, x.bottle(0, 1));
        check.due("bottle the last", 1, x.bottle(1, 1));
        check.noSuch("bottle the next", () -> x.bottle(2, 1));
        check.noSuch("bottle -1", () -> x.bottle(-1, 1));
        check.noSuch("bottle the least", () -> x.bottle(Integer.MIN_VALUE, 1));
        check.noSuch("bottle the greatest", () -> x.bottle(Integer.MAX_VALUE, 1));
    }

    private static void bottleMany1To1000() {
        Cellarscheduler x = Cellars.two(1000, 20, 1000, 20);
        x.print(0, 1000);
        x.print(1, 1000);
        check.due("bottle 1", 1, x.bottle(0, 1));
        check.due("bottle 1000", 1000, x.bottle(1, 1000));
        check.outOfRange("bottle 0", () -> x.bottle(0, 0));
        check.outOfRange("bottle -1", () -> x.bottle(0, -1));
        check.outOfRange("bottle 1001", () -> x.bottle(0, 1001));
        check.outOfRange("bottle the least", () -> x.bottle(0, Integer.MIN_VALUE));
        check.outOfRange("bottle the most", () -> x.bottle(0, Integer.MAX_VALUE));
        check.due("bottles after all that", 1, x.ofBrew(0, Cellars.BOTTLES));
        x.print(0, 1000);
        x.print(0, 1);
        check.outOfRange("bottle 1001, with as many labels", () -> x.bottle(0, 1001));
    }

    private static void bottleNotSoManyLitres() {
        Cellarscheduler x = Cellars.ripe(10, 28);
        x.print(0, 1000);
        check.notNow("11 of 10 litres", () -> x.bottle(0, 11));
        check.due("10 of 10 litres", 10, x.bottle(0, 10));
        Cellarscheduler y = Cellars.two(10, 28, 5, 28);
        y.print(0, 1000);
        y.blend(0, 1, 5);
        check.notNow("16 of 15 litres", () -> y.bottle(0, 16));
        check.due("15 of 15 litres", 15, y.bottle(0, 15));
    }

    private static void bottleNotSoManyLabels() {
        Cellarscheduler x = Cellars.ripe(1000, 28);
        check.notNow("1 without a label", () -> x.bottle(0, 1));
        x.print(0, 10);
        check.notNow("11 with 10 labels", () -> x.bottle(0, 11));
        check.due("10 with 10 labels", 10, x.bottle(0, 10));
        check.notNow("1 with none left", () -> x.bottle(0, 1));
    }

    private static void bottleVoidLabelsDoNotDo() {
        Cellarscheduler x = Cellars.ripe(1000, 28);
        x.print(0, 10);
        x.measure(0, 29);
        check.notNow("1 with 10 that are void", () -> x.bottle(0, 1));
        x.measure(0, 28);
        check.notNow("1 with 10 that are void, in their own class", () -> x.bottle(0, 1));
        x.print(0, 1);
        check.notNow("2 with 1, beside 10 that are void", () -> x.bottle(0, 2));
        check.due("1 with 1, beside 10 that are void", 1, x.bottle(0, 1));
        check.due("10 are void still", 10, x.ofBrew(0, Cellars.VOID));
    }

    private static void bottleLabelsOfItsClass() {
        int[] leasts = {0, 29, 51, 76};
        int[] mosts = {28, 50, 75, 250};
        for (int printed = 0; printed < 4; printed++) {
            for (int below = 0; below < printed; below++) {
                Cellarscheduler x = Cellars.ripe(10, leasts[printed]);
                x.print(0, 10);
                x.measure(0, mosts[below]);
                check.notNow("labels of " + printed + " for class " + below, () -> x.bottle(0, 1));
                x.measure(0, mosts[printed]);
                check.due("labels of its class", stamp(printed), x.bottle(0, 1));
            }
        }
    }

    private static int stamp(int ofClass) {
        return new int[] {1, 3, 6, 12}[ofClass];
    }

    private static void bottleStamps() {
        int[] strengths = {0, 28, 29, 50, 51, 75, 76, 250};
        for (int i = 0; i < strengths.length; i++) {
            Cellarscheduler x = Cellars.ripe(1000, strengths[i]);
            x.print(0, 1000);
            check.due("stamps for 1000 bottles of " + strengths[i], 1000 * stamp(i / 2), x.bottle(0, 1000));
        }
    }

    private static void bottleTellsLabelsLitresBottles() {
        Cellarscheduler x = Cellars.ripe(10, 28);
        x.print(0, 12);
        x.bottle(0, 3);
        check.due("labels left", 9, x.ofBrew(0, Cellars.LABELS));
        check.due("litres left", 7, x.ofBrew(0, Cellars.LITRES));
        check.due("bottles", 3, x.ofBrew(0, Cellars.BOTTLES));
        check.due("labels used are not void", 0, x.ofBrew(0, Cellars.VOID));
        x.bottle(0, 7);
        check.due("labels left of one that is gone", 2, x.ofBrew(0, Cellars.LABELS));
        check.due("bottles of one that is gone", 10, x.ofBrew(0, Cellars.BOTTLES));
    }

    private static void bottleGone() {
        Cellarscheduler x = Cellars.two(10, 28, 2, 28);
        x.print(1, 5);
        x.blend(0, 1, 1);
        check.due("bottle the last litre", 1, x.bottle(1, 1));
        check.notNow("bottle one that is gone by bottling", () -> x.bottle(1, 1));
        Cellarscheduler y = Cellars.two(10, 28, 2, 28);
        y.print(1, 5);
        y.blend(0, 1, 2);
        check.notNow("bottle one that is gone by blending", () -> y.bottle(1, 1));
    }
}
