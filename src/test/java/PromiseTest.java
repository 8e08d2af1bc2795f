/** Tests of the promises 1 to 14, a method for each. */
public final class PromiseTest {
    private static final Check check = new Check();

    public static void main(String[] args) {
        promise1NewObject();
        promise2Brew();
        promise2Foretold();
        promise3Pass();
        promise4Print();
        promise4PrintAnotherClass();
        promise5Label();
        promise6Bottle();
        promise6BottleThrows();
        promise7Measure();
        promise7MeasureVoidsLabels();
        promise7MeasureLess();
        promise8Blend();
        promise8BlendMeasured();
        promise8BlendForetold();
        promise8BlendThrows();
        promise9OfBrew();
        promise10ClassAnew();
        promise10ManyTellings();
        promise11InTank();
        promise12Paid();
        promise13Owed();
        promise14Pay();
        check.end();
    }

    private static void promise1NewObject() {
        Cellarscheduler x = new Cellarscheduler();
        for (int tank = 0; tank < 8; tank++) {
            check.due("inTank of a new object", Cellarscheduler.NONE, x.inTank(tank));
        }
        check.due("NONE", -1, Cellarscheduler.NONE);
        check.due("paid of a new object", 0, x.paid());
        check.due("owed of a new object", 0, x.owed());
        check.noSuch("ofBrew of a new object", () -> x.ofBrew(0, 0));
        check.due("the first day is 0", 1, x.pass(1));
    }

    private static void promise2Brew() {
        Cellarscheduler x = new Cellarscheduler();
        String before = Cellars.all(x);
        check.noSuch("tank -1", () -> x.brew(-1, 1, 50, 0));
        check.noSuch("tank 8", () -> x.brew(8, 1, 50, 0));
        check.noSuch("yeast -1", () -> x.brew(0, 1, 50, -1));
        check.noSuch("yeast 3", () -> x.brew(0, 1, 50, 3));
        check.noSuch("yeast 3 before litres 0", () -> x.brew(0, 0, 50, 3));
        check.noSuch("extreme tank", () -> x.brew(Integer.MIN_VALUE, Integer.MAX_VALUE, 0, 0));
        check.outOfRange("litres 0", () -> x.brew(0, 0, 50, 0));
        check.outOfRange("litres 1001", () -> x.brew(0, 1001, 50, 0));
        check.outOfRange("extract 49", () -> x.brew(0, 1, 49, 0));
        check.outOfRange("extract 301", () -> x.brew(0, 1, 301, 0));
        check.due("nothing changed", before, Cellars.all(x));

        check.due("least of all", 0, x.brew(0, 1, 50, 0));
        check.due("most of all", 1, x.brew(7, 1000, 300, 2));
        check.due("litres of 0", 1, x.ofBrew(0, Cellars.LITRES));
        check.due("litres of 1", 1000, x.ofBrew(1, Cellars.LITRES));
        String begun = Cellars.all(x);
        check.notNow("tank not empty", () -> x.brew(7, 1, 50, 0));
        check.outOfRange("litres before a tank that is not empty", () -> x.brew(7, 0, 50, 0));
        check.due("nothing changed by that", begun, Cellars.all(x));

        Cellarscheduler y = new Cellarscheduler();
        for (int number = 0; number < 20; number++) {
            check.due("brew " + number, number, y.brew(3, 1, 60, 0));
            y.pass(4);
            y.print(number, 1);
            y.bottle(number, 1);
        }
        check.notNow("the 21st brew", () -> y.brew(3, 1, 60, 0));
        check.outOfRange("extract before the 21st", () -> y.brew(3, 1, 301, 0));
        check.noSuch("there is no brew 20", () -> y.ofBrew(20, 0));
    }

    private static void promise2Foretold() {
        int[] extracts = {50, 69, 70, 119, 120, 122, 150, 151, 183, 184, 300};
        int[] keen = {20, 28, 28, 48, 49, 50, 61, 61, 75, 75, 123};
        int[] calm = {18, 25, 26, 44, 45, 45, 56, 56, 68, 69, 112};
        int[] slow = {16, 22, 23, 39, 39, 40, 49, 49, 60, 60, 99};
        for (int i = 0; i < extracts.length; i++) {
            Cellarscheduler x = new Cellarscheduler();
            x.brew(0, 10, extracts[i], 0);
            x.brew(1, 10, extracts[i], 1);
            x.brew(2, 10, extracts[i], 2);
            check.due("keen of " + extracts[i], keen[i], x.ofBrew(0, Cellars.STRENGTH));
            check.due("calm of " + extracts[i], calm[i], x.ofBrew(1, Cellars.STRENGTH));
            check.due("slow of " + extracts[i], slow[i], x.ofBrew(2, Cellars.STRENGTH));
            check.due("foretold is not measured", 0, x.ofBrew(0, Cellars.MEASURED));
        }
    }

    private static void promise3Pass() {
        Cellarscheduler x = new Cellarscheduler();
        check.outOfRange("no days", () -> x.pass(0));
        check.outOfRange("days below 0", () -> x.pass(-1));
        check.outOfRange("101 days", () -> x.pass(101));
        check.due("100 days", 100, x.pass(100));
        check.due("another day", 101, x.pass(1));
        int[] days = {4, 7, 12};
        for (int yeast = 0; yeast < 3; yeast++) {
            x.brew(yeast, 10, 100, yeast);
            x.pass(days[yeast] - 1);
            check.due("not ripe, yeast " + yeast, 0, x.ofBrew(yeast, Cellars.STATE));
            x.pass(1);
            check.due("ripe, yeast " + yeast, 1, x.ofBrew(yeast, Cellars.STATE));
        }
    }

    private static void promise4Print() {
        Cellarscheduler x = new Cellarscheduler();
        check.noSuch("no brew yet", () -> x.print(0, 1));
        x.brew(0, 10, 120, 0);
        check.noSuch("brew -1", () -> x.print(-1, 1));
        check.noSuch("brew 1, before many", () -> x.print(1, 0));
        check.outOfRange("many 0", () -> x.print(0, 0));
        check.outOfRange("many 1001", () -> x.print(0, 1001));
        check.due("before it is ripe", 1, x.print(0, 1));
        check.due("more of them", 1001, x.print(0, 1000));
        check.due("up to 2000", 2000, x.print(0, 999));
        String before = Cellars.all(x);
        check.notNow("2001", () -> x.print(0, 1));
        check.outOfRange("many 0 before 2000", () -> x.print(0, 0));
        check.due("nothing changed", before, Cellars.all(x));
        x.pass(4);
        x.bottle(0, 9);
        check.due("room again", 2000, x.print(0, 9));
        x.bottle(0, 1);
        check.notNow("gone", () -> x.print(0, 1));
        check.outOfRange("many 1001 before gone", () -> x.print(0, 1001));
    }

    private static void promise4PrintAnotherClass() {
        Cellarscheduler x = Cellars.ripe(100, 50);
        x.print(0, 1000);
        x.print(0, 1000);
        x.measure(0, 28);
        check.due("labels stay when less is measured", 2000, x.ofBrew(0, Cellars.LABELS));
        check.due("another class voids", 700, x.print(0, 700));
        check.due("not void", 700, x.ofBrew(0, Cellars.LABELS));
        check.due("void", 2000, x.ofBrew(0, Cellars.VOID));
        x.measure(0, 0);
        check.due("another strength of the class voids nothing", 701, x.print(0, 1));
        check.due("void still", 2000, x.ofBrew(0, Cellars.VOID));
        check.due("text of the last", "ALE 0.0% OF TANK 0", Cellars.text(x, 0));
    }

    private static void promise5Label() {
        Cellarscheduler x = new Cellarscheduler();
        check.noSuch("no brew yet", () -> x.label(0, 0));
        x.brew(7, 2, 122, 0);
        check.due("none printed", 0, x.label(0, 0));
        check.due("none printed, far behind", 0, x.label(0, Integer.MAX_VALUE));
        check.noSuch("place -1", () -> x.label(0, -1));
        check.noSuch("brew 1", () -> x.label(1, 0));
        check.noSuch("brew -1", () -> x.label(-1, 0));
        x.print(0, 1);
        check.due("text", "ALE 5.0% OF TANK 7", Cellars.text(x, 0));
        check.due("behind the last", 0, x.label(0, 18));
        check.due("far behind the last", 0, x.label(0, Integer.MAX_VALUE));
        int[] strengths = {0, 9, 10, 50, 51, 75, 76, 99, 100, 250};
        String[] texts = {"ALE 0.0%", "ALE 0.9%", "ALE 1.0%", "ALE 5.0%", "STRONG ALE 5.1%", "STRONG ALE 7.5%",
            "STRONG ALE 7.6%", "STRONG ALE 9.9%", "STRONG ALE 10.0%", "STRONG ALE 25.0%"};
        for (int i = 0; i < strengths.length; i++) {
            String before = Cellars.text(x, 0);
            x.measure(0, strengths[i]);
            check.due("as it was printed, also if void", before, Cellars.text(x, 0));
            x.print(0, 1);
            check.due("text of " + strengths[i], texts[i] + " OF TANK 7", Cellars.text(x, 0));
        }
        x.pass(4);
        x.print(0, 1);
        x.bottle(0, 2);
        check.due("gone, none left", "STRONG ALE 25.0% OF TANK 7", Cellars.text(x, 0));
    }

    private static void promise6Bottle() {
        int[] strengths = {0, 28, 29, 50, 51, 75, 76, 250};
        int[] stamps = {1, 1, 3, 3, 6, 6, 12, 12};
        for (int i = 0; i < strengths.length; i++) {
            Cellarscheduler x = Cellars.ripe(1000, strengths[i]);
            x.print(0, 1000);
            check.due("bottle at " + strengths[i], 10 * stamps[i], x.bottle(0, 10));
            check.due("litres", 990, x.ofBrew(0, Cellars.LITRES));
            check.due("labels", 990, x.ofBrew(0, Cellars.LABELS));
            check.due("none void", 0, x.ofBrew(0, Cellars.VOID));
            check.due("bottles", 10, x.ofBrew(0, Cellars.BOTTLES));
            check.due("the rest", 990 * stamps[i], x.bottle(0, 990));
            check.due("gone", 2, x.ofBrew(0, Cellars.STATE));
            check.due("all bottles", 1000, x.ofBrew(0, Cellars.BOTTLES));
            check.due("tank is empty", -1, x.inTank(0));
        }
        Cellarscheduler y = new Cellarscheduler();
        y.brew(0, 10, 120, 0);
        y.print(0, 10);
        y.pass(4);
        check.due("bottled as foretold", 15, y.bottle(0, 5));
    }

    private static void promise6BottleThrows() {
        Cellarscheduler x = new Cellarscheduler();
        check.noSuch("no brew yet", () -> x.bottle(0, 1));
        x.brew(0, 10, 120, 0);
        x.print(0, 20);
        x.pass(3);
        String before = Cellars.all(x);
        check.noSuch("brew 1, before many", () -> x.bottle(1, 0));
        check.noSuch("brew -1", () -> x.bottle(-1, 1));
        check.outOfRange("many 0, before not ripe", () -> x.bottle(0, 0));
        check.outOfRange("many 1001", () -> x.bottle(0, 1001));
        check.notNow("not ripe", () -> x.bottle(0, 1));
        check.due("nothing changed", before, Cellars.all(x));
        x.pass(1);
        check.notNow("not so many litres", () -> x.bottle(0, 11));
        check.notNow("as many as may be asked", () -> x.bottle(0, 1000));
        x.measure(0, 28);
        check.notNow("labels of another class, above", () -> x.bottle(0, 1));
        x.measure(0, 50);
        check.due("labels of its class again", 3, x.bottle(0, 1));
        x.measure(0, 51);
        check.notNow("labels are void", () -> x.bottle(0, 1));
        x.print(0, 3);
        String printed = Cellars.all(x);
        check.notNow("not so many labels", () -> x.bottle(0, 4));
        check.due("nothing changed by that", printed, Cellars.all(x));
        check.due("as many as labels", 18, x.bottle(0, 3));
        x.print(0, 10);
        x.bottle(0, 6);
        check.due("labels left of a brew that is gone", 4, x.ofBrew(0, Cellars.LABELS));
        check.notNow("gone", () -> x.bottle(0, 1));
        check.outOfRange("many before gone", () -> x.bottle(0, 0));
    }

    private static void promise7Measure() {
        Cellarscheduler x = new Cellarscheduler();
        check.noSuch("no brew yet", () -> x.measure(0, 1));
        x.brew(0, 100, 60, 0);
        String before = Cellars.all(x);
        check.noSuch("brew -1", () -> x.measure(-1, 1));
        check.noSuch("brew 1, before strength", () -> x.measure(1, -1));
        check.outOfRange("strength -1", () -> x.measure(0, -1));
        check.outOfRange("strength 251", () -> x.measure(0, 251));
        check.due("nothing changed", before, Cellars.all(x));
        check.due("least, before it is ripe", 0, x.measure(0, 0));
        check.due("strength", 0, x.ofBrew(0, Cellars.STRENGTH));
        check.due("measured", 1, x.ofBrew(0, Cellars.MEASURED));
        check.due("nothing owed without bottles", 0, x.measure(0, 250));
        x.measure(0, 10);
        x.pass(4);
        x.print(0, 100);
        x.bottle(0, 10);
        check.due("10 bottles from 0 to 1", 20, x.measure(0, 29));
        check.due("once", 0, x.measure(0, 50));
        x.print(0, 5);
        x.bottle(0, 5);
        x.measure(0, 28);
        x.print(0, 7);
        x.bottle(0, 7);
        check.due("7 from 0 and 15 from 1 to 3", 7 * 11 + 15 * 9, x.measure(0, 76));
        check.due("owed", 20 + 7 * 11 + 15 * 9, x.owed());
        check.due("never again", 0, x.measure(0, 250));
        check.due("bottles are counted still", 22, x.ofBrew(0, Cellars.BOTTLES));
        check.due("what was paid stays", 10 + 15 + 7, x.paid());

        Cellarscheduler y = Cellars.ripe(10, 28);
        y.print(0, 12);
        y.bottle(0, 10);
        check.due("a brew that is gone", 50, y.measure(0, 51));
        check.due("its labels are void", 2, y.ofBrew(0, Cellars.VOID));
        check.due("then from 2 to 3", 60, y.measure(0, 76));
        check.due("and its strength", 76, y.ofBrew(0, Cellars.STRENGTH));
    }

    private static void promise7MeasureVoidsLabels() {
        int[] tops = {28, 50, 75};
        for (int top : tops) {
            Cellarscheduler x = Cellars.ripe(100, top - 5);
            x.print(0, 9);
            x.measure(0, top);
            check.due("class not above at " + top, 9, x.ofBrew(0, Cellars.LABELS));
            x.measure(0, top + 1);
            check.due("class above " + top, 0, x.ofBrew(0, Cellars.LABELS));
            check.due("void above " + top, 9, x.ofBrew(0, Cellars.VOID));
            x.measure(0, top);
            check.due("void they stay", 0, x.ofBrew(0, Cellars.LABELS));
            x.print(0, 4);
            x.measure(0, 250);
            check.due("voids add up", 13, x.ofBrew(0, Cellars.VOID));
        }
    }

    private static void promise7MeasureLess() {
        Cellarscheduler x = Cellars.ripe(100, 80);
        x.print(0, 50);
        x.bottle(0, 20);
        check.due("nothing is owed", 0, x.measure(0, 30));
        check.due("labels stay", 30, x.ofBrew(0, Cellars.LABELS));
        check.due("none void", 0, x.ofBrew(0, Cellars.VOID));
        check.notNow("but they are of another class", () -> x.bottle(0, 1));
        check.due("below the labels still", 0, x.measure(0, 75));
        check.due("labels stay still", 30, x.ofBrew(0, Cellars.LABELS));
        check.due("back", 0, x.measure(0, 76));
        check.due("bottles by old labels", 12, x.bottle(0, 1));
    }

    private static void promise8Blend() {
        Cellarscheduler x = new Cellarscheduler();
        x.brew(1, 600, 100, 1);
        x.brew(2, 300, 200, 1);
        x.pass(7);
        check.due("of 37 and 75", (37 * 600 + 75 * 100) / 700, x.blend(0, 1, 100));
        check.due("strength", 42, x.ofBrew(0, Cellars.STRENGTH));
        check.due("gets", 700, x.ofBrew(0, Cellars.LITRES));
        check.due("gives", 200, x.ofBrew(1, Cellars.LITRES));
        check.due("the other's strength stays", 75, x.ofBrew(1, Cellars.STRENGTH));
        check.due("all of it", (42 * 700 + 75 * 200) / 900, x.blend(0, 1, 200));
        check.due("the other is gone", 2, x.ofBrew(1, Cellars.STATE));
        check.due("its tank is empty", -1, x.inTank(2));
        check.due("its tank is told still", 2, x.ofBrew(1, Cellars.TANK));
        check.due("the tank takes another", 2, x.brew(2, 1000, 50, 2));
    }

    private static void promise8BlendMeasured() {
        Cellarscheduler x = new Cellarscheduler();
        x.brew(0, 100, 60, 0);
        x.brew(1, 100, 200, 0);
        x.pass(4);
        x.measure(0, 20);
        x.measure(1, 100);
        x.print(0, 60);
        x.bottle(0, 50);
        check.due("to class 2", 60, x.blend(0, 1, 50));
        check.due("measured", 1, x.ofBrew(0, Cellars.MEASURED));
        check.due("owed", 250, x.owed());
        check.due("void", 10, x.ofBrew(0, Cellars.VOID));
        check.due("left", 0, x.ofBrew(0, Cellars.LABELS));
        check.due("owed once", 0, x.measure(0, 75));
        x.print(0, 5);
        x.measure(1, 0);
        check.due("a blend brings it back", (75 * 100) / 150, x.blend(0, 1, 50));
        check.due("nothing more is owed", 250, x.owed());
        check.due("labels stay when it is less", 5, x.ofBrew(0, Cellars.LABELS));
        check.due("its class", 1, x.ofBrew(0, Cellars.CLASS));
    }

    private static void promise8BlendForetold() {
        for (int which = 0; which < 3; which++) {
            Cellarscheduler x = new Cellarscheduler();
            x.brew(0, 100, 69, 0);
            x.brew(1, 300, 244, 0);
            x.pass(4);
            if (which == 1) {
                x.measure(0, 28);
            }
            if (which == 2) {
                x.measure(1, 100);
            }
            x.print(0, 60);
            x.bottle(0, 50);
            check.due("to class 2", 64, x.blend(0, 1, 50));
            check.due("foretold", 0, x.ofBrew(0, Cellars.MEASURED));
            check.due("nothing is owed", 0, x.owed());
            check.due("nothing is void", 0, x.ofBrew(0, Cellars.VOID));
            check.due("all are left", 10, x.ofBrew(0, Cellars.LABELS));
            check.notNow("labels are of another class", () -> x.bottle(0, 1));
            check.due("the other stays as it was", which == 2 ? 1 : 0, x.ofBrew(1, Cellars.MEASURED));
            x.measure(1, 100);
            x.blend(0, 1, 50);
            check.due("foretold with measured", 0, x.ofBrew(0, Cellars.MEASURED));
            x.measure(0, 70);
            check.due("owed by a measure", 250, x.owed());
            check.due("void by a measure", 10, x.ofBrew(0, Cellars.VOID));
            x.blend(0, 1, 50);
            check.due("measured with measured", 1, x.ofBrew(0, Cellars.MEASURED));
        }
    }

    private static void promise8BlendThrows() {
        Cellarscheduler x = new Cellarscheduler();
        check.noSuch("no brew yet", () -> x.blend(0, 0, 1));
        x.brew(0, 400, 100, 0);
        x.brew(1, 700, 100, 1);
        x.brew(2, 10, 100, 0);
        x.pass(4);
        String before = Cellars.all(x);
        check.noSuch("brew 3", () -> x.blend(3, 0, 1));
        check.noSuch("other 3", () -> x.blend(0, 3, 1));
        check.noSuch("other -1", () -> x.blend(0, -1, 0));
        check.noSuch("brew -1", () -> x.blend(-1, 0, 0));
        check.noSuch("both -1", () -> x.blend(-1, -1, 1));
        check.outOfRange("both are one", () -> x.blend(0, 0, 1));
        check.outOfRange("litres 0", () -> x.blend(0, 2, 0));
        check.outOfRange("litres 1001", () -> x.blend(0, 2, 1001));
        check.outOfRange("litres before not ripe", () -> x.blend(1, 0, 0));
        check.notNow("the one is not ripe", () -> x.blend(1, 0, 1));
        check.notNow("the other is not ripe", () -> x.blend(0, 1, 1));
        check.notNow("not so much", () -> x.blend(0, 2, 11));
        check.due("nothing changed", before, Cellars.all(x));
        x.pass(3);
        String ripe = Cellars.all(x);
        check.notNow("the tank does not hold it", () -> x.blend(0, 1, 601));
        check.due("nothing changed by that", ripe, Cellars.all(x));
        check.due("the tank is full", (41 * 400 + 37 * 600) / 1000, x.blend(0, 1, 600));
        check.due("full", 1000, x.ofBrew(0, Cellars.LITRES));
        check.notNow("no drop more", () -> x.blend(0, 1, 1));
        x.blend(1, 2, 10);
        String gone = Cellars.all(x);
        check.notNow("the other is gone", () -> x.blend(0, 2, 1));
        check.notNow("the one is gone", () -> x.blend(2, 0, 1));
        check.outOfRange("both are one that is gone", () -> x.blend(2, 2, 1));
        check.due("nothing changed by these", gone, Cellars.all(x));
    }

    private static void promise9OfBrew() {
        Cellarscheduler x = new Cellarscheduler();
        check.noSuch("no brew yet, before what", () -> x.ofBrew(0, 9));
        x.brew(6, 100, 122, 1);
        int[] young = {6, 100, 45, 0, 1, 0, 0, 0, 0};
        for (int what = 0; what < young.length; what++) {
            check.due("young, what " + what, young[what], x.ofBrew(0, what));
        }
        check.noSuch("brew -1", () -> x.ofBrew(-1, 0));
        check.noSuch("brew 1", () -> x.ofBrew(1, 0));
        check.outOfRange("what -1", () -> x.ofBrew(0, -1));
        check.outOfRange("what 9", () -> x.ofBrew(0, 9));
        x.pass(7);
        x.print(0, 40);
        x.bottle(0, 30);
        x.measure(0, 80);
        x.print(0, 75);
        x.bottle(0, 1);
        int[] old = {6, 69, 80, 1, 3, 74, 10, 31, 1};
        for (int what = 0; what < old.length; what++) {
            check.due("old, what " + what, old[what], x.ofBrew(0, what));
        }
        x.bottle(0, 69);
        int[] gone = {6, 0, 80, 1, 3, 5, 10, 100, 2};
        for (int what = 0; what < gone.length; what++) {
            check.due("gone, what " + what, gone[what], x.ofBrew(0, what));
        }
        int[] strengths = {0, 28, 29, 50, 51, 75, 76, 250};
        int[] classes = {0, 0, 1, 1, 2, 2, 3, 3};
        for (int i = 0; i < strengths.length; i++) {
            x.measure(0, strengths[i]);
            check.due("class of " + strengths[i], classes[i], x.ofBrew(0, Cellars.CLASS));
        }
    }

    private static void promise10ClassAnew() {
        Cellarscheduler x = new Cellarscheduler();
        check.noSuch("no brew yet", () -> x.classAnew(0));
        x.brew(0, 100, 70, 0);
        x.brew(1, 100, 250, 0);
        x.brew(2, 100, 150, 0);
        check.noSuch("brew -1", () -> x.classAnew(-1));
        check.noSuch("brew 3", () -> x.classAnew(3));
        check.due("foretold 28", 0, x.classAnew(0));
        check.due("foretold 102", 3, x.classAnew(1));
        check.due("foretold 61", 2, x.classAnew(2));
        x.pass(4);
        x.measure(0, 40);
        check.due("measured 40", 1, x.classAnew(0));
        check.due("40 and 102", 71, x.blend(0, 1, 100));
        check.due("blended 71", 2, x.classAnew(0));
        check.due("the gone one", 3, x.classAnew(1));
        x.measure(1, 0);
        check.due("the gone one measured anew", 0, x.classAnew(1));
        check.due("what is told later of the other", 2, x.classAnew(0));
        check.due("71 and 61", 69, x.blend(0, 2, 40));
        x.print(0, 100);
        x.bottle(0, 100);
        check.due("after bottling", 2, x.classAnew(0));
        check.due("69 and 61, by the litres of then", 66, x.blend(0, 2, 60));
        x.measure(2, 76);
        check.due("one that gave and is measured later", 3, x.classAnew(2));
        check.due("one that got", 2, x.classAnew(0));
        x.measure(0, 28);
        check.due("measured last", 0, x.classAnew(0));
    }

    private static void promise10ManyTellings() {
        Cellarscheduler x = new Cellarscheduler();
        x.brew(0, 500, 100, 0);
        x.pass(4);
        for (int call = 3; call <= 510; call++) {
            x.measure(0, 90);
        }
        x.measure(0, 20);
        check.due("the 512th call", 0, x.classAnew(0));
        for (int call = 513; call <= 600; call++) {
            x.measure(0, 20);
        }
        check.due("later answers are free, but are answers", 0, x.classAnew(0));

        Cellarscheduler y = new Cellarscheduler();
        y.brew(0, 1000, 300, 0);
        y.brew(1, 1, 50, 0);
        y.pass(4);
        for (int i = 0; i < 100; i++) {
            y.blend(1, 0, 2);
            y.blend(0, 1, 1);
            check.due("step " + i, y.ofBrew(0, Cellars.CLASS), y.classAnew(0));
        }
        check.due("the other one", y.ofBrew(1, Cellars.CLASS), y.classAnew(1));
    }

    private static void promise11InTank() {
        Cellarscheduler x = new Cellarscheduler();
        check.noSuch("tank -1", () -> x.inTank(-1));
        check.noSuch("tank 8", () -> x.inTank(8));
        x.brew(7, 5, 60, 0);
        x.brew(0, 5, 60, 0);
        check.due("tank 7", 0, x.inTank(7));
        check.due("tank 0", 1, x.inTank(0));
        check.due("tank 1", -1, x.inTank(1));
        x.pass(4);
        x.print(0, 5);
        x.bottle(0, 4);
        check.due("a litre left", 0, x.inTank(7));
        x.bottle(0, 1);
        check.due("empty", -1, x.inTank(7));
        check.due("the tank of one that is gone", 7, x.ofBrew(0, Cellars.TANK));
        x.brew(7, 5, 60, 0);
        check.due("another one", 2, x.inTank(7));
    }

    private static void promise12Paid() {
        Cellarscheduler x = Cellars.ripe(100, 28);
        x.brew(1, 100, 300, 0);
        x.pass(4);
        x.print(0, 100);
        x.print(1, 100);
        x.bottle(0, 10);
        check.due("10 of class 0", 10, x.paid());
        x.bottle(1, 10);
        check.due("and 10 of class 3", 130, x.paid());
        x.measure(0, 100);
        check.due("not what was owed", 130, x.paid());
        x.pay(50);
        check.due("nor what the crown got", 130, x.paid());
    }

    private static void promise13Owed() {
        Cellarscheduler x = Cellars.ripe(100, 28);
        x.brew(1, 100, 60, 0);
        x.pass(4);
        x.print(0, 100);
        x.print(1, 100);
        x.bottle(0, 10);
        x.bottle(1, 20);
        check.due("nothing by bottling", 0, x.owed());
        x.measure(0, 29);
        check.due("of one", 20, x.owed());
        x.measure(1, 51);
        check.due("of both", 120, x.owed());
        x.pay(20);
        check.due("less what was paid", 100, x.owed());
        x.measure(0, 0);
        check.due("nothing comes back", 100, x.owed());
    }

    private static void promise14Pay() {
        Cellarscheduler x = Cellars.ripe(100, 28);
        check.due("nothing is owed", 0, x.pay(1));
        x.print(0, 100);
        x.bottle(0, 100);
        x.measure(0, 76);
        check.outOfRange("most 0", () -> x.pay(0));
        check.outOfRange("most -1", () -> x.pay(-1));
        check.outOfRange("most 100001", () -> x.pay(100001));
        check.due("owed as before", 1100, x.owed());
        check.due("a penny", 1, x.pay(1));
        check.due("owed less a penny", 1099, x.owed());
        check.due("all but one", 1098, x.pay(1098));
        check.due("the rest", 1, x.pay(100000));
        check.due("owed no more", 0, x.owed());
        check.due("nothing left", 0, x.pay(100000));
    }
}
