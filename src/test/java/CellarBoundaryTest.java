/** The boundaries that promises 1, 2, 3, 9 and 11 name: the last value that is allowed, the first that is not. */
public final class CellarBoundaryTest {
    private static final Check check = new Check();

    public static void main(String[] args) {
        newObjectAllTanksAreEmpty();
        newObjectTheDayIs0();
        newObjectHasNoBrewAndNoPence();
        newObjectsAreApart();
        brewTank0To7();
        brewYeast0To2();
        brewLitres1To1000();
        brewExtract50To300();
        brewReturnsItsNumberFrom0();
        brewTankIsNotEmpty();
        brewTankIsEmptyAgainByBottling();
        brewTankIsEmptyAgainByBlending();
        brewThereAre20();
        brewForetoldIsRoundedDown();
        brewForetoldClasses();
        passDays1To100();
        passReturnsTheDay();
        passKeenIsRipeAfter4();
        passCalmIsRipeAfter7();
        passSlowIsRipeAfter12();
        passRipeLaterThanTheFirstDay();
        ofBrewBrewIsThere();
        ofBrewWhat0To8();
        ofBrewTankAlsoIfGone();
        ofBrewLitres();
        ofBrewMeasured();
        ofBrewState();
        inTankTank0To7();
        inTankNoneIfEmpty();
        check.end();
    }

    private static void newObjectAllTanksAreEmpty() {
        for (int tank = 0; tank < 8; tank++) {
            Cellarscheduler x = new Cellarscheduler();
            check.due("tank " + tank + " of a new object", Cellarscheduler.NONE, x.inTank(tank));
            check.due("tank " + tank + " takes 1000 litres", 0, x.brew(tank, 1000, 50, 0));
        }
    }

    private static void newObjectTheDayIs0() {
        check.due("a day after day 0", 1, new Cellarscheduler().pass(1));
        check.due("100 days after day 0", 100, new Cellarscheduler().pass(100));
    }

    private static void newObjectHasNoBrewAndNoPence() {
        Cellarscheduler x = new Cellarscheduler();
        check.noSuch("brew 0 of a new object, printed", () -> x.print(0, 1));
        check.noSuch("brew 0 of a new object, its label", () -> x.label(0, 0));
        check.noSuch("brew 0 of a new object, bottled", () -> x.bottle(0, 1));
        check.noSuch("brew 0 of a new object, measured", () -> x.measure(0, 0));
        check.noSuch("brew 0 of a new object, blended", () -> x.blend(0, 1, 1));
        check.noSuch("brew 0 of a new object, told", () -> x.ofBrew(0, 0));
        check.noSuch("brew 0 of a new object, its class", () -> x.classAnew(0));
        check.due("paid by a new object", 0, x.paid());
        check.due("owed by a new object", 0, x.owed());
        check.due("pay of a new object", 0, x.pay(100000));
    }

    private static void newObjectsAreApart() {
        Cellarscheduler x = Cellars.bottled(28, 10);
        x.measure(0, 76);
        Cellarscheduler y = new Cellarscheduler();
        check.due("another object's tank", Cellarscheduler.NONE, y.inTank(0));
        check.due("another object's owed", 0, y.owed());
        check.due("another object's paid", 0, y.paid());
        check.due("another object's day", 1, y.pass(1));
        check.due("another object's first brew", 0, y.brew(0, 1, 50, 0));
        check.due("another object's strength", 0, y.classAnew(0));
        check.due("the first object's strength", 3, x.classAnew(0));
    }

    private static void brewTank0To7() {
        Cellarscheduler x = new Cellarscheduler();
        check.due("brew in tank 0", 0, x.brew(0, 1, 50, 0));
        check.due("brew in tank 7", 1, x.brew(7, 1, 50, 0));
        check.noSuch("brew in tank -1", () -> x.brew(-1, 1, 50, 0));
        check.noSuch("brew in tank 8", () -> x.brew(8, 1, 50, 0));
        check.noSuch("brew in the least tank", () -> x.brew(Integer.MIN_VALUE, 1, 50, 0));
        check.noSuch("brew in the greatest tank", () -> x.brew(Integer.MAX_VALUE, 1, 50, 0));
    }

    private static void brewYeast0To2() {
        Cellarscheduler x = new Cellarscheduler();
        check.due("brew with yeast 0", 0, x.brew(0, 1, 50, 0));
        check.due("brew with yeast 2", 1, x.brew(1, 1, 50, 2));
        check.noSuch("brew with yeast -1", () -> x.brew(2, 1, 50, -1));
        check.noSuch("brew with yeast 3", () -> x.brew(2, 1, 50, 3));
        check.noSuch("brew with the least yeast", () -> x.brew(2, 1, 50, Integer.MIN_VALUE));
        check.noSuch("brew with the greatest yeast", () -> x.brew(2, 1, 50, Integer.MAX_VALUE));
    }

    private static void brewLitres1To1000() {
        Cellarscheduler x = new Cellarscheduler();
        check.due("brew of 1 litre", 0, x.brew(0, 1, 50, 0));
        check.due("brew of 1000 litres", 1, x.brew(1, 1000, 50, 0));
        check.outOfRange("brew of 0 litres", () -> x.brew(2, 0, 50, 0));
        check.outOfRange("brew of -1 litres", () -> x.brew(2, -1, 50, 0));
        check.outOfRange("brew of 1001 litres", () -> x.brew(2, 1001, 50, 0));
        check.outOfRange("brew of the least litres", () -> x.brew(2, Integer.MIN_VALUE, 50, 0));
        check.outOfRange("brew of the most litres", () -> x.brew(2, Integer.MAX_VALUE, 50, 0));
    }

    private static void brewExtract50To300() {
        Cellarscheduler x = new Cellarscheduler();
        check.due("brew of extract 50", 0, x.brew(0, 1, 50, 0));
        check.due("brew of extract 300", 1, x.brew(1, 1, 300, 0));
        check.outOfRange("brew of extract 49", () -> x.brew(2, 1, 49, 0));
        check.outOfRange("brew of extract 301", () -> x.brew(2, 1, 301, 0));
        check.outOfRange("brew of the least extract", () -> x.brew(2, 1, Integer.MIN_VALUE, 0));
        check.outOfRange("brew of the greatest extract", () -> x.brew(2, 1, Integer.MAX_VALUE, 0));
    }

    private static void brewReturnsItsNumberFrom0() {
        Cellarscheduler x = new Cellarscheduler();
        for (int number = 0; number < 8; number++) {
            check.due("number of a brew", number, x.brew(7 - number, 1, 50, 0));
        }
        for (int number = 0; number < 8; number++) {
            check.due("tank of brew " + number, 7 - number, x.ofBrew(number, Cellars.TANK));
        }
    }

    private static void brewTankIsNotEmpty() {
        Cellarscheduler x = Cellars.ripe(2, 28);
        check.notNow("brew in a tank that holds 2 litres", () -> x.brew(0, 1, 50, 0));
        x.print(0, 2);
        x.bottle(0, 1);
        check.notNow("brew in a tank that holds 1 litre", () -> x.brew(0, 1, 50, 0));
        check.due("brew in the tank beside it", 1, x.brew(1, 1, 50, 0));
    }

    private static void brewTankIsEmptyAgainByBottling() {
        Cellarscheduler x = Cellars.ripe(2, 28);
        x.print(0, 2);
        x.bottle(0, 2);
        check.due("in a tank of which all was bottled", Cellarscheduler.NONE, x.inTank(0));
        check.due("brew in a tank of which all was bottled", 1, x.brew(0, 1000, 50, 0));
        check.due("in that tank", 1, x.inTank(0));
        check.notNow("another brew in that tank", () -> x.brew(0, 1, 50, 0));
    }

    private static void brewTankIsEmptyAgainByBlending() {
        Cellarscheduler x = Cellars.two(10, 28, 2, 28);
        x.blend(0, 1, 1);
        check.notNow("brew in a tank that gave all but a litre", () -> x.brew(1, 1, 50, 0));
        x.blend(0, 1, 1);
        check.due("in a tank that gave all", Cellarscheduler.NONE, x.inTank(1));
        check.due("brew in a tank that gave all", 2, x.brew(1, 1000, 50, 0));
        check.notNow("brew in the tank that got all", () -> x.brew(0, 1, 50, 0));
    }

    private static void brewThereAre20() {
        Cellarscheduler x = Cellars.begun(19);
        check.due("the 20th brew", 19, x.brew(1, 1, 60, 0));
        check.due("the 20th brew is there", 1, x.ofBrew(19, Cellars.TANK));
        check.notNow("a 21st brew, in an empty tank", () -> x.brew(2, 1, 60, 0));
        x.pass(4);
        x.blend(0, 19, 1);
        check.notNow("a 21st brew, when 19 are gone", () -> x.brew(1, 1, 60, 0));
        check.noSuch("the 21st brew is not there", () -> x.ofBrew(20, Cellars.TANK));
        check.due("nothing is in its tank", Cellarscheduler.NONE, x.inTank(2));
    }

    private static int foretold(int extract, int yeast) {
        Cellarscheduler x = new Cellarscheduler();
        x.brew(0, 1, extract, yeast);
        return x.ofBrew(0, Cellars.STRENGTH);
    }

    private static void brewForetoldIsRoundedDown() {
        check.due("100 times 82, divided by 200", 41, foretold(100, 0));
        check.due("99 times 82, divided by 200, is 40.59", 40, foretold(99, 0));
        check.due("101 times 82, divided by 200, is 41.41", 41, foretold(101, 0));
        check.due("104 times 75, divided by 200", 39, foretold(104, 1));
        check.due("103 times 75, divided by 200, is 38.625", 38, foretold(103, 1));
        check.due("106 times 75, divided by 200, is 39.75", 39, foretold(106, 1));
        check.due("100 times 66, divided by 200", 33, foretold(100, 2));
        check.due("103 times 66, divided by 200, is 33.99", 33, foretold(103, 2));
        check.due("97 times 66, divided by 200, is 32.01", 32, foretold(97, 2));
        check.due("the least keen, 20.5", 20, foretold(50, 0));
        check.due("the least slow, 16.5", 16, foretold(50, 2));
        check.due("the greatest keen", 123, foretold(300, 0));
        check.due("the greatest calm, 112.5", 112, foretold(300, 1));
    }

    private static void brewForetoldClasses() {
        int[][] lastOfClass = {{70, 124, 185}, {77, 135, 202}, {87, 154, 230}};
        for (int yeast = 0; yeast < 3; yeast++) {
            for (int itsClass = 0; itsClass < 3; itsClass++) {
                Cellarscheduler x = new Cellarscheduler();
                int extract = lastOfClass[yeast][itsClass];
                x.brew(0, 1, extract, yeast);
                x.brew(1, 1, extract + 1, yeast);
                check.due("class of extract " + extract + ", yeast " + yeast, itsClass, x.ofBrew(0, Cellars.CLASS));
                check.due("class of an extract above it", itsClass + 1, x.ofBrew(1, Cellars.CLASS));
                check.due("class anew of extract " + extract, itsClass, x.classAnew(0));
                check.due("class anew of an extract above it", itsClass + 1, x.classAnew(1));
            }
        }
    }

    private static void passDays1To100() {
        Cellarscheduler x = new Cellarscheduler();
        check.due("pass 1", 1, x.pass(1));
        check.due("pass 100", 101, x.pass(100));
        check.outOfRange("pass 0", () -> x.pass(0));
        check.outOfRange("pass -1", () -> x.pass(-1));
        check.outOfRange("pass 101", () -> x.pass(101));
        check.outOfRange("pass the least", () -> x.pass(Integer.MIN_VALUE));
        check.outOfRange("pass the most", () -> x.pass(Integer.MAX_VALUE));
        check.due("the day after all that", 102, x.pass(1));
    }

    private static void passReturnsTheDay() {
        Cellarscheduler x = new Cellarscheduler();
        for (int call = 1; call <= 512; call++) {
            check.due("day after call " + call, 100 * call, x.pass(100));
        }
    }

    /** A brew is not ripe on the day before the last, and is on the last. */
    private static void ripens(int yeast, int days) {
        Cellarscheduler x = new Cellarscheduler();
        x.brew(0, 10, 60, yeast);
        x.brew(1, 10, 60, yeast);
        x.print(0, 5);
        check.due("ripe at once, yeast " + yeast, 0, x.ofBrew(0, Cellars.STATE));
        x.pass(days - 1);
        check.due("ripe a day before, yeast " + yeast, 0, x.ofBrew(0, Cellars.STATE));
        check.notNow("bottle a day before, yeast " + yeast, () -> x.bottle(0, 1));
        check.notNow("blend a day before, yeast " + yeast, () -> x.blend(0, 1, 1));
        x.pass(1);
        check.due("ripe on the day, yeast " + yeast, 1, x.ofBrew(0, Cellars.STATE));
        check.due("bottle on the day, yeast " + yeast, 1, x.bottle(0, 1));
        check.due("blend on the day, yeast " + yeast, x.ofBrew(0, Cellars.STRENGTH), x.blend(0, 1, 1));
        x.pass(100);
        check.due("ripe long after, yeast " + yeast, 1, x.ofBrew(0, Cellars.STATE));
    }

    private static void passKeenIsRipeAfter4() {
        ripens(0, 4);
    }

    private static void passCalmIsRipeAfter7() {
        ripens(1, 7);
    }

    private static void passSlowIsRipeAfter12() {
        ripens(2, 12);
    }

    private static void passRipeLaterThanTheFirstDay() {
        Cellarscheduler x = new Cellarscheduler();
        x.pass(100);
        x.pass(3);
        x.brew(0, 1, 60, 0);
        x.pass(1);
        x.brew(1, 1, 60, 0);
        x.pass(2);
        check.due("3 days after it began", 0, x.ofBrew(0, Cellars.STATE));
        x.pass(1);
        check.due("4 days after it began", 1, x.ofBrew(0, Cellars.STATE));
        check.due("3 days after the other began", 0, x.ofBrew(1, Cellars.STATE));
        x.pass(1);
        check.due("4 days after the other began", 1, x.ofBrew(1, Cellars.STATE));
    }

    private static void ofBrewBrewIsThere() {
        Cellarscheduler x = Cellars.begun(3);
        check.due("ofBrew of the first", 0, x.ofBrew(0, Cellars.TANK));
        check.due("ofBrew of the last", 1, x.ofBrew(2, Cellars.TANK));
        check.noSuch("ofBrew of the next", () -> x.ofBrew(3, Cellars.TANK));
        check.noSuch("ofBrew of -1", () -> x.ofBrew(-1, Cellars.TANK));
        check.noSuch("ofBrew of the least", () -> x.ofBrew(Integer.MIN_VALUE, Cellars.TANK));
        check.noSuch("ofBrew of the greatest", () -> x.ofBrew(Integer.MAX_VALUE, Cellars.TANK));
    }

    private static void ofBrewWhat0To8() {
        Cellarscheduler x = Cellars.ripe(500, 60);
        check.due("what 0", 0, x.ofBrew(0, 0));
        check.due("what 8", 1, x.ofBrew(0, 8));
        check.outOfRange("what -1", () -> x.ofBrew(0, -1));
        check.outOfRange("what 9", () -> x.ofBrew(0, 9));
        check.outOfRange("the least what", () -> x.ofBrew(0, Integer.MIN_VALUE));
        check.outOfRange("the greatest what", () -> x.ofBrew(0, Integer.MAX_VALUE));
    }

    private static void ofBrewTankAlsoIfGone() {
        Cellarscheduler x = new Cellarscheduler();
        x.brew(7, 1, 60, 0);
        x.brew(3, 1, 60, 0);
        x.pass(4);
        x.blend(1, 0, 1);
        x.brew(7, 1, 60, 0);
        check.due("the tank of one that is gone", 7, x.ofBrew(0, Cellars.TANK));
        check.due("the tank of the one after it", 7, x.ofBrew(2, Cellars.TANK));
        check.due("the tank of the one that got it", 3, x.ofBrew(1, Cellars.TANK));
    }

    private static void ofBrewLitres() {
        Cellarscheduler x = Cellars.two(999, 20, 1, 20);
        check.due("litres that it came with", 999, x.ofBrew(0, Cellars.LITRES));
        x.blend(0, 1, 1);
        check.due("litres of a full tank", 1000, x.ofBrew(0, Cellars.LITRES));
        check.due("litres of one that is gone", 0, x.ofBrew(1, Cellars.LITRES));
        x.print(0, 1000);
        x.bottle(0, 999);
        check.due("the last litre", 1, x.ofBrew(0, Cellars.LITRES));
        x.bottle(0, 1);
        check.due("no litre left", 0, x.ofBrew(0, Cellars.LITRES));
    }

    private static void ofBrewMeasured() {
        Cellarscheduler x = new Cellarscheduler();
        x.brew(0, 1, 100, 0);
        check.due("foretold", 0, x.ofBrew(0, Cellars.MEASURED));
        x.measure(0, 41);
        check.due("measured, though it is the strength that was foretold", 1, x.ofBrew(0, Cellars.MEASURED));
        x.measure(0, 0);
        check.due("measured as 0", 1, x.ofBrew(0, Cellars.MEASURED));
        check.due("its strength is 0", 0, x.ofBrew(0, Cellars.STRENGTH));
    }

    private static void ofBrewState() {
        Cellarscheduler x = new Cellarscheduler();
        x.brew(0, 1, 100, 0);
        x.brew(1, 999, 100, 2);
        x.measure(0, 20);
        check.due("measured, but not ripe", 0, x.ofBrew(0, Cellars.STATE));
        x.print(0, 2);
        x.pass(4);
        check.due("ripe", 1, x.ofBrew(0, Cellars.STATE));
        check.due("the other is not ripe", 0, x.ofBrew(1, Cellars.STATE));
        x.bottle(0, 1);
        check.due("gone", 2, x.ofBrew(0, Cellars.STATE));
        x.pass(100);
        check.due("gone for ever", 2, x.ofBrew(0, Cellars.STATE));
    }

    private static void inTankTank0To7() {
        Cellarscheduler x = new Cellarscheduler();
        x.brew(7, 1, 50, 0);
        x.brew(0, 1, 50, 0);
        check.due("in tank 0", 1, x.inTank(0));
        check.due("in tank 7", 0, x.inTank(7));
        check.noSuch("in tank -1", () -> x.inTank(-1));
        check.noSuch("in tank 8", () -> x.inTank(8));
        check.noSuch("in the least tank", () -> x.inTank(Integer.MIN_VALUE));
        check.noSuch("in the greatest tank", () -> x.inTank(Integer.MAX_VALUE));
    }

    private static void inTankNoneIfEmpty() {
        Cellarscheduler x = Cellars.begun(20);
        check.due("the one that got all", 0, x.inTank(0));
        for (int tank = 1; tank < 8; tank++) {
            check.due("an empty tank, " + tank, -1, x.inTank(tank));
        }
        Cellarscheduler full = new Cellarscheduler();
        for (int tank = 0; tank < 8; tank++) {
            full.brew(tank, 1, 50, 0);
        }
        for (int tank = 0; tank < 8; tank++) {
            int in = tank;
            check.due("in tank " + tank + " when all are full", tank, full.inTank(tank));
            check.notNow("a brew more in tank " + tank, () -> full.brew(in, 1, 50, 0));
        }
    }
}
