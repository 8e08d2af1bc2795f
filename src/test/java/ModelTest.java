import java.util.Random;

/** Long runs of calls, always the same ones, answered by the program and by the Model. */
public final class ModelTest {
    private static final int RUNS = 3000;
    private static final int CALLS = 512;
    private static final int[] ODD = {Integer.MIN_VALUE, -1, 0, 1000, 1001, 20, Integer.MAX_VALUE};

    private static final Check check = new Check();

    public static void main(String[] args) {
        for (int run = 0; run < RUNS; run++) {
            oneRun(run);
        }
        check.end();
    }

    private static void oneRun(int run) {
        Random random = new Random(run);
        Cellarscheduler x = new Cellarscheduler();
        Model model = new Model();
        int brews = 1 + random.nextInt(6);
        int litres = random.nextBoolean() ? 20 : 1000;
        for (int made = 0; made < CALLS; made++) {
            int kind = random.nextInt(20);
            int brew = odd(random, random.nextInt(1 + Math.min(20, brews + made / 60)));
            int tank = odd(random, random.nextInt(9) % 8);
            int many = odd(random, 1 + random.nextInt(litres));
            String call = "run " + run + ", call " + made + ", kind " + kind + " of " + brew + ", " + tank + ", " + many;
            int extract = odd(random, 50 + random.nextInt(251));
            int strength = odd(random, random.nextBoolean() ? random.nextInt(101) : random.nextInt(252));
            int small = random.nextInt(11) - 1;
            String due = Check.outcome(() -> ofModel(model, kind, brew, tank, many, extract, strength, small));
            String got = Check.outcome(() -> ofProgram(x, kind, brew, tank, many, extract, strength, small));
            check.due(call, due, got);
        }
    }

    private static int odd(Random random, int usual) {
        return random.nextInt(40) == 0 ? ODD[random.nextInt(ODD.length)] : usual;
    }

    private static long ofModel(Model m, int kind, int brew, int tank, int many, int extract, int strength, int small) {
        switch (kind) {
            case 0: case 1: return m.brew(tank, many, extract, small % 4);
            case 2: return m.pass(small);
            case 3: case 4: case 5: return m.print(brew, many);
            case 6: return m.label(brew, strength % 30);
            case 7: case 8: case 9: return m.bottle(brew, Math.min(many, 3 + strength));
            case 10: case 11: return m.measure(brew, strength);
            case 12: case 13: return m.blend(brew, tank, Math.min(many, 3 + strength));
            case 14: case 15: return m.ofBrew(brew, small);
            case 16: return m.classAnew(brew);
            case 17: return m.inTank(tank);
            case 18: return small < 5 ? m.paid() : m.owed();
            default: return m.pay(many);
        }
    }

    private static long ofProgram(Cellarscheduler x, int kind, int brew, int tank, int many, int extract,
            int strength, int small) {
        switch (kind) {
            case 0: case 1: return x.brew(tank, many, extract, small % 4);
            case 2: return x.pass(small);
            case 3: case 4: case 5: return x.print(brew, many);
            case 6: return x.label(brew, strength % 30);
            case 7: case 8: case 9: return x.bottle(brew, Math.min(many, 3 + strength));
            case 10: case 11: return x.measure(brew, strength);
            case 12: case 13: return x.blend(brew, tank, Math.min(many, 3 + strength));
            case 14: case 15: return x.ofBrew(brew, small);
            case 16: return x.classAnew(brew);
            case 17: return x.inTank(tank);
            case 18: return small < 5 ? x.paid() : x.owed();
            default: return x.pay(many);
        }
    }
}
