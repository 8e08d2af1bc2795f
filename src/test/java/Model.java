import java.util.ArrayList;
import java.util.List;

/** The document told a second time, in another way: a label and a bottle are things of their own. */
final class Model {
    private static final class Brew {
        int tank;
        int litres;
        int ripe;
        String text = "";
        final List<Integer> labels = new ArrayList<>();
        int voids = 0;
        final List<Integer> bottles = new ArrayList<>();
        /** What was told of the strength: {strength, 1 if measured}, the last one is in force. */
        final List<int[]> told = new ArrayList<>();

        int strength() {
            return told.get(told.size() - 1)[0];
        }

        boolean measured() {
            return told.get(told.size() - 1)[1] == 1;
        }

        int itsClass() {
            return classOf(strength());
        }
    }

    private final List<Brew> brews = new ArrayList<>();
    private int day = 0;
    private int paid = 0;
    private int owed = 0;

    private static int classOf(int strength) {
        return strength > 75 ? 3 : strength > 50 ? 2 : strength > 28 ? 1 : 0;
    }

    private static int stamp(int ofClass) {
        return List.of(1, 3, 6, 12).get(ofClass);
    }

    private Brew there(int brew) {
        if (brew < 0 || brew >= brews.size()) {
            throw new IndexOutOfBoundsException();
        }
        return brews.get(brew);
    }

    private static void range(boolean fits) {
        if (!fits) {
            throw new IllegalArgumentException();
        }
    }

    private static void state(boolean fits) {
        if (!fits) {
            throw new IllegalStateException();
        }
    }

    int brew(int tank, int litres, int extract, int yeast) {
        if (tank < 0 || tank > 7 || yeast < 0 || yeast > 2) {
            throw new IndexOutOfBoundsException();
        }
        range(litres >= 1 && litres <= 1000 && extract >= 50 && extract <= 300);
        state(inTank(tank) == -1 && brews.size() < 20);
        Brew made = new Brew();
        made.tank = tank;
        made.litres = litres;
        made.ripe = day + (yeast == 0 ? 4 : yeast == 1 ? 7 : 12);
        made.told.add(new int[] {extract * (yeast == 0 ? 82 : yeast == 1 ? 75 : 66) / 200, 0});
        brews.add(made);
        return brews.size() - 1;
    }

    int pass(int days) {
        range(days >= 1 && days <= 100);
        return day += days;
    }

    int print(int brew, int many) {
        Brew b = there(brew);
        range(many >= 1 && many <= 1000);
        boolean same = !b.labels.isEmpty() && b.labels.get(0) == b.itsClass();
        state(b.litres > 0 && (same ? b.labels.size() : 0) + many <= 2000);
        if (!same) {
            b.voids += b.labels.size();
            b.labels.clear();
        }
        for (int i = 0; i < many; i++) {
            b.labels.add(b.itsClass());
        }
        b.text = (b.strength() > 50 ? "STRONG " : "") + "ALE " + b.strength() / 10 + "." + b.strength() % 10
                + "% OF TANK " + b.tank;
        return b.labels.size();
    }

    char label(int brew, int place) {
        Brew b = there(brew);
        if (place < 0) {
            throw new IndexOutOfBoundsException();
        }
        return place < b.text.length() ? b.text.charAt(place) : 0;
    }

    int bottle(int brew, int many) {
        Brew b = there(brew);
        range(many >= 1 && many <= 1000);
        state(b.litres >= many && day >= b.ripe && b.labels.size() >= many && b.labels.get(0) == b.itsClass());
        int pence = 0;
        for (int i = 0; i < many; i++) {
            b.labels.remove(b.labels.size() - 1);
            b.bottles.add(b.itsClass());
            pence += stamp(b.itsClass());
        }
        b.litres -= many;
        paid += pence;
        return pence;
    }

    int measure(int brew, int strength) {
        Brew b = there(brew);
        range(strength >= 0 && strength <= 250);
        return told(b, strength);
    }

    private int told(Brew b, int strength) {
        b.told.add(new int[] {strength, 1});
        if (!b.labels.isEmpty() && b.labels.get(0) < b.itsClass()) {
            b.voids += b.labels.size();
            b.labels.clear();
        }
        int pence = 0;
        for (int i = 0; i < b.bottles.size(); i++) {
            if (b.bottles.get(i) < b.itsClass()) {
                pence += stamp(b.itsClass()) - stamp(b.bottles.get(i));
                b.bottles.set(i, b.itsClass());
            }
        }
        owed += pence;
        return pence;
    }

    int blend(int brew, int other, int litres) {
        Brew b = there(brew);
        Brew o = there(other);
        range(b != o && litres >= 1 && litres <= 1000);
        state(b.litres > 0 && o.litres > 0 && day >= b.ripe && day >= o.ripe);
        state(o.litres >= litres && b.litres + litres <= 1000);
        int strength = (b.strength() * b.litres + o.strength() * litres) / (b.litres + litres);
        b.litres += litres;
        o.litres -= litres;
        if (b.measured() && o.measured()) {
            told(b, strength);
        } else {
            b.told.add(new int[] {strength, 0});
        }
        return strength;
    }

    int ofBrew(int brew, int what) {
        Brew b = there(brew);
        range(what >= 0 && what <= 8);
        int state = b.litres == 0 ? 2 : day >= b.ripe ? 1 : 0;
        return List.of(b.tank, b.litres, b.strength(), b.measured() ? 1 : 0, b.itsClass(), b.labels.size(), b.voids,
                b.bottles.size(), state).get(what);
    }

    int classAnew(int brew) {
        return there(brew).itsClass();
    }

    int inTank(int tank) {
        if (tank < 0 || tank > 7) {
            throw new IndexOutOfBoundsException();
        }
        for (Brew b : brews) {
            if (b.tank == tank && b.litres > 0) {
                return brews.indexOf(b);
            }
        }
        return -1;
    }

    int paid() {
        return paid;
    }

    int owed() {
        return owed;
    }

    int pay(int most) {
        range(most >= 1 && most <= 100000);
        int pence = most < owed ? most : owed;
        owed -= pence;
        return pence;
    }
}
