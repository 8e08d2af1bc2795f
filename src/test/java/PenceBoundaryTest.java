/** The boundaries that promises 12, 13 and 14 name, of what is paid and owed. */
public final class PenceBoundaryTest {
    private static final Check check = new Check();

    public static void main(String[] args) {
        paidByBottling();
        paidNotWhatWasOwed();
        paidNotByARefusedCall();
        owedByMeasures();
        owedByBlends();
        owedByABlendBesideWhatWasOwed();
        owedByManyBrews();
        payMost1To100000();
        payNothingIsOwed();
        payLessThanIsOwed();
        payAllThatIsOwed();
        payAtMostWhatIsOwed();
        payMoreThan100000IsOwed();
        payAndOweAgain();
        check.end();
    }

    private static void paidByBottling() {
        Cellarscheduler x = Cellars.two(1000, 28, 1000, 76);
        check.due("nothing bottled", 0, x.paid());
        x.print(0, 1000);
        x.print(1, 1000);
        check.due("labels cost nothing", 0, x.paid());
        x.bottle(0, 1);
        check.due("a bottle of class 0", 1, x.paid());
        x.bottle(1, 1);
        check.due("and one of class 3", 13, x.paid());
        x.bottle(0, 999);
        x.bottle(1, 999);
        check.due("all that", 13000, x.paid());
    }

    private static void paidNotWhatWasOwed() {
        Cellarscheduler x = Cellars.bottled(28, 10);
        x.measure(0, 76);
        check.due("paid, when 110 are owed", 10, x.paid());
        x.pay(100000);
        check.due("paid, when the crown has got them", 10, x.paid());
    }

    private static void paidNotByARefusedCall() {
        Cellarscheduler x = Cellars.bottled(28, 10);
        check.notNow("bottle without labels", () -> x.bottle(0, 1));
        check.outOfRange("bottle 0", () -> x.bottle(0, 0));
        check.due("paid", 10, x.paid());
    }

    private static void owedByMeasures() {
        Cellarscheduler x = Cellars.bottled(28, 1);
        check.due("nothing is owed by bottling", 0, x.owed());
        x.measure(0, 28);
        check.due("nor by the greatest of the class", 0, x.owed());
        x.measure(0, 29);
        check.due("by the least of the next", 2, x.owed());
        x.measure(0, 51);
        check.due("and of the next", 5, x.owed());
        x.measure(0, 76);
        check.due("and of the last", 11, x.owed());
        x.measure(0, 0);
        check.due("nothing comes back", 11, x.owed());
    }

    private static void owedByBlends() {
        Cellarscheduler x = Cellars.two(20, 28, 10, 30);
        x.print(0, 10);
        x.bottle(0, 10);
        check.due("to the least of the next class", 29, x.blend(0, 1, 10));
        check.due("owed by that", 20, x.owed());
        Cellarscheduler y = Cellars.two(20, 28, 10, 29);
        y.print(0, 10);
        y.bottle(0, 10);
        check.due("to the greatest of the class", 28, y.blend(0, 1, 10));
        check.due("owed by that", 0, y.owed());
    }

    private static void owedByABlendBesideWhatWasOwed() {
        Cellarscheduler x = Cellars.two(20, 28, 10, 52);
        x.print(0, 10);
        x.bottle(0, 10);
        x.measure(0, 50);
        check.due("to the least of the class 2", 51, x.blend(0, 1, 10));
        check.due("owed by the measure and by the blend", 50, x.owed());
        Cellarscheduler y = Cellars.two(20, 28, 10, 52);
        y.print(0, 10);
        y.bottle(0, 10);
        y.measure(0, 50);
        y.measure(0, 49);
        check.due("of the class 1", 50, y.blend(0, 1, 10));
        check.due("owed by the measure alone", 20, y.owed());
    }

    private static void owedByManyBrews() {
        Cellarscheduler x = Cellars.two(10, 28, 10, 50);
        x.print(0, 10);
        x.print(1, 10);
        x.bottle(0, 10);
        x.bottle(1, 10);
        check.due("of one", 20, x.measure(0, 29));
        check.due("of the other", 30, x.measure(1, 51));
        check.due("of both", 50, x.owed());
    }

    private static void payMost1To100000() {
        Cellarscheduler x = Cellars.bottled(28, 10);
        x.measure(0, 76);
        check.outOfRange("pay 0", () -> x.pay(0));
        check.outOfRange("pay -1", () -> x.pay(-1));
        check.outOfRange("pay 100001", () -> x.pay(100001));
        check.outOfRange("pay the least", () -> x.pay(Integer.MIN_VALUE));
        check.outOfRange("pay the most", () -> x.pay(Integer.MAX_VALUE));
        check.due("owed after all that", 110, x.owed());
        check.due("pay 1", 1, x.pay(1));
        check.due("pay 100000", 109, x.pay(100000));
    }

    private static void payNothingIsOwed() {
        Cellarscheduler x = Cellars.bottled(28, 10);
        check.due("at most 1 of nothing", 0, x.pay(1));
        check.due("at most 100000 of nothing", 0, x.pay(100000));
        check.due("owed still", 0, x.owed());
    }

    private static void payLessThanIsOwed() {
        Cellarscheduler x = Cellars.bottled(28, 10);
        x.measure(0, 29);
        check.due("19 of 20", 19, x.pay(19));
        check.due("1 is left", 1, x.owed());
    }

    private static void payAllThatIsOwed() {
        Cellarscheduler x = Cellars.bottled(28, 10);
        x.measure(0, 29);
        check.due("20 of 20", 20, x.pay(20));
        check.due("none is left", 0, x.owed());
    }

    private static void payAtMostWhatIsOwed() {
        Cellarscheduler x = Cellars.bottled(28, 10);
        x.measure(0, 29);
        check.due("21 of 20", 20, x.pay(21));
        check.due("none is left", 0, x.owed());
        check.due("and none is paid then", 0, x.pay(21));
    }

    private static void payMoreThan100000IsOwed() {
        Cellarscheduler x = new Cellarscheduler();
        for (int brew = 0; brew < 10; brew++) {
            x.brew(0, 1000, 60, 0);
            x.print(brew, 1000);
            x.pass(4);
            x.bottle(brew, 1000);
            check.due("owed for 1000 bottles", 11000, x.measure(brew, 250));
        }
        check.due("owed", 110000, x.owed());
        check.due("at most 100000", 100000, x.pay(100000));
        check.due("the rest is left", 10000, x.owed());
        check.due("the rest", 10000, x.pay(100000));
    }

    private static void payAndOweAgain() {
        Cellarscheduler x = Cellars.bottled(28, 10);
        x.measure(0, 29);
        x.pay(5);
        check.due("owed by the next measure", 30, x.measure(0, 51));
        check.due("with what was left", 45, x.owed());
        check.due("all that", 45, x.pay(45));
    }
}
