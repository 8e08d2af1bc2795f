/** Each refused call: what it throws, the one documented first; then the object answers as if it had not been made. */
public final class RefusedTest {
    private static final String NO_SUCH = "IndexOutOfBoundsException";
    private static final String OUT_OF_RANGE = "IllegalArgumentException";
    private static final String NOT_NOW = "IllegalStateException";

    private interface Made {
        Cellarscheduler cellar();
    }

    private interface Act {
        long on(Cellarscheduler x);
    }

    private static final Check check = new Check();

    public static void main(String[] args) {
        Made[] all = {Cellarscheduler::new, RefusedTest::young, RefusedTest::ripe, RefusedTest::fullOfLabels,
            RefusedTest::gone, RefusedTest::goneAndLess, () -> Cellars.begun(20)};
        for (Made made : all) {
            wrongTanksYeastsAndBrews(made);
            wrongDaysAndPence(made);
        }
        for (int which = 1; which < all.length; which++) {
            wrongOfOneThatIsThere(all[which]);
        }
        brewNotNow();
        printNotNow();
        bottleNotNow();
        blendNotNow();
        firstOfBrew();
        firstOfPrintAndBottle();
        firstOfBlend();
        firstOfTheOthers();
        check.end();
    }

    /** Two brews with labels, of strengths far apart; none is ripe, and each is so a day later. */
    private static Cellarscheduler young() {
        Cellarscheduler x = new Cellarscheduler();
        x.brew(0, 20, 60, 0);
        x.brew(1, 990, 60, 0);
        x.pass(3);
        x.measure(0, 0);
        x.measure(1, 250);
        x.print(0, 12);
        x.print(1, 12);
        return x;
    }

    /** Two brews of strengths far apart, of which the second is not ripe. */
    private static Cellarscheduler oneNotRipe() {
        Cellarscheduler x = new Cellarscheduler();
        x.brew(0, 20, 60, 0);
        x.brew(1, 20, 300, 2);
        x.pass(11);
        return x;
    }

    /** Two ripe brews with labels, void ones and bottles, and some pence owed. */
    private static Cellarscheduler ripe() {
        Cellarscheduler x = Cellars.two(200, 28, 800, 29);
        x.print(0, 60);
        x.bottle(0, 20);
        x.measure(0, 50);
        x.print(0, 30);
        x.print(1, 900);
        return x;
    }

    /** Two ripe brews that have all the labels that they can have; those of the second are of a class above it. */
    private static Cellarscheduler fullOfLabels() {
        Cellarscheduler x = Cellars.two(500, 28, 500, 29);
        x.print(0, 1000);
        x.print(0, 1000);
        x.print(1, 1000);
        x.print(1, 1000);
        x.measure(1, 28);
        return x;
    }

    /** Two brews, the class of one next to that of the other: the first is gone and has labels and bottles. */
    private static Cellarscheduler gone() {
        Cellarscheduler x = Cellars.two(10, 28, 10, 29);
        x.print(0, 12);
        x.print(1, 12);
        x.bottle(0, 10);
        return x;
    }

    /** Two brews: the first is gone and has labels of a class above it. */
    private static Cellarscheduler goneAndLess() {
        Cellarscheduler x = Cellars.two(10, 29, 10, 28);
        x.print(0, 12);
        x.bottle(0, 10);
        x.measure(0, 28);
        return x;
    }

    private static void refused(String call, String due, Made made, Act act) {
        Cellarscheduler x = made.cellar();
        Cellarscheduler y = made.cellar();
        check.due(call, due, Check.outcome(() -> act.on(x)));
        check.due(call + ": what is told after it", Cellars.all(y), Cellars.all(x));
        check.due(call + ": what comes after it", Cellars.goOn(y), Cellars.goOn(x));
        Cellarscheduler later = made.cellar();
        Check.outcome(() -> act.on(later));
        Cellars.goOn(later);
        check.due(call + ": what is told after that", all(made), Cellars.all(later));
    }

    private static String all(Made made) {
        Cellarscheduler x = made.cellar();
        Cellars.goOn(x);
        return Cellars.all(x);
    }

    private static void wrongTanksYeastsAndBrews(Made made) {
        for (int wrong : new int[] {Integer.MIN_VALUE, -1, 20, Integer.MAX_VALUE}) {
            refused("brew in tank " + wrong, NO_SUCH, made, x -> x.brew(wrong, 10, 100, 0));
            refused("brew with yeast " + wrong, NO_SUCH, made, x -> x.brew(7, 10, 100, wrong));
            refused("print for " + wrong, NO_SUCH, made, x -> x.print(wrong, 1));
            refused("label of " + wrong, NO_SUCH, made, x -> x.label(wrong, 0));
            refused("bottle " + wrong, NO_SUCH, made, x -> x.bottle(wrong, 1));
            refused("measure " + wrong, NO_SUCH, made, x -> x.measure(wrong, 100));
            refused("blend to " + wrong, NO_SUCH, made, x -> x.blend(wrong, 0, 1));
            refused("blend of " + wrong, NO_SUCH, made, x -> x.blend(0, wrong, 1));
            refused("ofBrew of " + wrong, NO_SUCH, made, x -> x.ofBrew(wrong, 1));
            refused("classAnew of " + wrong, NO_SUCH, made, x -> x.classAnew(wrong));
            refused("inTank of " + wrong, NO_SUCH, made, x -> x.inTank(wrong));
        }
        refused("brew in tank 8", NO_SUCH, made, x -> x.brew(8, 10, 100, 0));
        refused("brew with yeast 3", NO_SUCH, made, x -> x.brew(7, 10, 100, 3));
        refused("inTank of 8", NO_SUCH, made, x -> x.inTank(8));
    }

    private static void wrongDaysAndPence(Made made) {
        for (int wrong : new int[] {Integer.MIN_VALUE, -1, 0, Integer.MAX_VALUE}) {
            refused("brew of litres " + wrong, OUT_OF_RANGE, made, x -> x.brew(7, wrong, 100, 0));
            refused("brew of extract " + wrong, OUT_OF_RANGE, made, x -> x.brew(7, 10, wrong, 0));
            refused("pass " + wrong, OUT_OF_RANGE, made, x -> x.pass(wrong));
            refused("pay " + wrong, OUT_OF_RANGE, made, x -> x.pay(wrong));
        }
        refused("brew of 1001 litres", OUT_OF_RANGE, made, x -> x.brew(7, 1001, 100, 0));
        refused("brew of extract 49", OUT_OF_RANGE, made, x -> x.brew(7, 10, 49, 0));
        refused("brew of extract 301", OUT_OF_RANGE, made, x -> x.brew(7, 10, 301, 0));
        refused("pass 101", OUT_OF_RANGE, made, x -> x.pass(101));
        refused("pay 100001", OUT_OF_RANGE, made, x -> x.pay(100001));
    }

    private static void wrongOfOneThatIsThere(Made made) {
        for (int wrong : new int[] {Integer.MIN_VALUE, -1, 0, 1001, Integer.MAX_VALUE}) {
            refused("print " + wrong, OUT_OF_RANGE, made, x -> x.print(0, wrong));
            refused("bottle " + wrong, OUT_OF_RANGE, made, x -> x.bottle(0, wrong));
            refused("blend " + wrong, OUT_OF_RANGE, made, x -> x.blend(0, 1, wrong));
        }
        for (int wrong : new int[] {Integer.MIN_VALUE, -1, 251, Integer.MAX_VALUE}) {
            refused("measure as " + wrong, OUT_OF_RANGE, made, x -> x.measure(0, wrong));
            refused("what " + wrong, OUT_OF_RANGE, made, x -> x.ofBrew(0, wrong));
        }
        refused("what 9", OUT_OF_RANGE, made, x -> x.ofBrew(0, 9));
        refused("blend one with itself", OUT_OF_RANGE, made, x -> x.blend(0, 0, 1));
        refused("place -1", NO_SUCH, made, x -> x.label(0, -1));
        refused("the least place", NO_SUCH, made, x -> x.label(0, Integer.MIN_VALUE));
    }

    private static void brewNotNow() {
        refused("brew in a tank that is not empty", NOT_NOW, RefusedTest::young, x -> x.brew(0, 10, 100, 0));
        refused("brew in another that is not", NOT_NOW, RefusedTest::gone, x -> x.brew(1, 10, 100, 0));
        refused("a 21st brew", NOT_NOW, () -> Cellars.begun(20), x -> x.brew(7, 10, 100, 0));
    }

    private static void printNotNow() {
        refused("2001 labels", NOT_NOW, RefusedTest::fullOfLabels, x -> x.print(0, 1));
        refused("3000 labels", NOT_NOW, RefusedTest::fullOfLabels, x -> x.print(0, 1000));
        refused("labels for one that is gone", NOT_NOW, RefusedTest::gone, x -> x.print(0, 1));
        refused("labels of another class for one that is gone", NOT_NOW, RefusedTest::goneAndLess, x -> x.print(0, 1));
    }

    private static void bottleNotNow() {
        refused("bottle before it is ripe", NOT_NOW, RefusedTest::young, x -> x.bottle(0, 12));
        refused("bottle more than its labels", NOT_NOW, RefusedTest::ripe, x -> x.bottle(0, 31));
        refused("bottle more than its litres", NOT_NOW, RefusedTest::ripe, x -> x.bottle(1, 801));
        refused("bottle with labels of another class", NOT_NOW, RefusedTest::fullOfLabels, x -> x.bottle(1, 1));
        refused("bottle one that is gone", NOT_NOW, RefusedTest::gone, x -> x.bottle(0, 1));
    }

    private static void blendNotNow() {
        refused("blend before they are ripe", NOT_NOW, RefusedTest::young, x -> x.blend(0, 1, 10));
        Made little = () -> Cellars.two(100, 0, 500, 250);
        refused("blend more than the other has", NOT_NOW, little, x -> x.blend(0, 1, 501));
        Made much = () -> Cellars.two(600, 0, 500, 250);
        refused("blend more than the tank holds", NOT_NOW, much, x -> x.blend(0, 1, 401));
        refused("blend more than either", NOT_NOW, much, x -> x.blend(0, 1, 1000));
        refused("blend to one that is not ripe", NOT_NOW, RefusedTest::oneNotRipe, x -> x.blend(1, 0, 10));
        refused("blend of one that is not ripe", NOT_NOW, RefusedTest::oneNotRipe, x -> x.blend(0, 1, 10));
        refused("blend to one that is gone", NOT_NOW, RefusedTest::gone, x -> x.blend(0, 1, 1));
        refused("blend of one that is gone", NOT_NOW, RefusedTest::gone, x -> x.blend(1, 0, 1));
    }

    private static void firstOfBrew() {
        Made full = RefusedTest::young;
        refused("tank before litres", NO_SUCH, full, x -> x.brew(8, 0, 100, 0));
        refused("tank before extract", NO_SUCH, full, x -> x.brew(-1, 10, 301, 0));
        refused("yeast before litres", NO_SUCH, full, x -> x.brew(7, 1001, 100, 3));
        refused("yeast before extract", NO_SUCH, full, x -> x.brew(7, 10, 49, -1));
        refused("yeast before a tank that is not empty", NO_SUCH, full, x -> x.brew(0, 10, 100, 3));
        refused("yeast before both", NO_SUCH, full, x -> x.brew(0, 0, 100, 3));
        refused("litres before a tank that is not empty", OUT_OF_RANGE, full, x -> x.brew(0, 0, 100, 0));
        refused("extract before a tank that is not empty", OUT_OF_RANGE, full, x -> x.brew(0, 10, 49, 0));
        Made most = () -> Cellars.begun(20);
        refused("tank before there are 20", NO_SUCH, most, x -> x.brew(8, 10, 100, 0));
        refused("yeast before there are 20", NO_SUCH, most, x -> x.brew(7, 10, 100, 3));
        refused("litres before there are 20", OUT_OF_RANGE, most, x -> x.brew(7, 1001, 100, 0));
        refused("extract before there are 20", OUT_OF_RANGE, most, x -> x.brew(7, 10, 301, 0));
        refused("there are 20, and the tank is not empty", NOT_NOW, most, x -> x.brew(0, 10, 100, 0));
    }

    private static void firstOfPrintAndBottle() {
        for (int wrong : new int[] {0, 1001}) {
            refused("brew before many", NO_SUCH, RefusedTest::young, x -> x.print(2, wrong));
            refused("many before 2001 labels", OUT_OF_RANGE, RefusedTest::fullOfLabels, x -> x.print(0, wrong));
            refused("many before gone", OUT_OF_RANGE, RefusedTest::gone, x -> x.print(0, wrong));
            refused("brew before many bottles", NO_SUCH, RefusedTest::young, x -> x.bottle(2, wrong));
            refused("many before not ripe", OUT_OF_RANGE, RefusedTest::young, x -> x.bottle(0, wrong));
            refused("many before too few labels", OUT_OF_RANGE, RefusedTest::ripe, x -> x.bottle(0, wrong));
            refused("many before another class", OUT_OF_RANGE, RefusedTest::fullOfLabels, x -> x.bottle(1, wrong));
            refused("many bottles before gone", OUT_OF_RANGE, RefusedTest::gone, x -> x.bottle(0, wrong));
        }
    }

    private static void firstOfBlend() {
        Made made = RefusedTest::gone;
        refused("brew before both are one", NO_SUCH, made, x -> x.blend(2, 2, 1));
        refused("-1 before both are one", NO_SUCH, made, x -> x.blend(-1, -1, 1));
        refused("brew before litres", NO_SUCH, made, x -> x.blend(2, 1, 0));
        refused("other before litres", NO_SUCH, made, x -> x.blend(1, 2, 1001));
        refused("brew before the other is gone", NO_SUCH, made, x -> x.blend(2, 0, 1));
        refused("other before the brew is gone", NO_SUCH, made, x -> x.blend(0, 2, 1));
        refused("both are one before gone", OUT_OF_RANGE, made, x -> x.blend(0, 0, 1));
        refused("both are one, of wrong litres", OUT_OF_RANGE, made, x -> x.blend(1, 1, 0));
        refused("litres before the brew is gone", OUT_OF_RANGE, made, x -> x.blend(0, 1, 0));
        refused("litres before the other is gone", OUT_OF_RANGE, made, x -> x.blend(1, 0, 1001));
        Made young = RefusedTest::young;
        refused("both are one before not ripe", OUT_OF_RANGE, young, x -> x.blend(0, 0, 1));
        refused("litres before not ripe", OUT_OF_RANGE, young, x -> x.blend(0, 1, 0));
        refused("litres before more than there are", OUT_OF_RANGE, RefusedTest::ripe, x -> x.blend(0, 1, 1001));
        refused("other before not ripe", NO_SUCH, young, x -> x.blend(0, 2, 1));
    }

    private static void firstOfTheOthers() {
        Made made = RefusedTest::ripe;
        refused("brew before strength", NO_SUCH, made, x -> x.measure(2, 251));
        refused("brew before what", NO_SUCH, made, x -> x.ofBrew(2, 9));
        refused("brew and place", NO_SUCH, made, x -> x.label(2, -1));
        refused("brew of a new object before strength", NO_SUCH, Cellarscheduler::new, x -> x.measure(0, -1));
        refused("brew of a new object before what", NO_SUCH, Cellarscheduler::new, x -> x.ofBrew(0, -1));
    }
}
