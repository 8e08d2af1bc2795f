import java.io.IOException;
import java.lang.reflect.Method;
import java.lang.reflect.Modifier;
import java.nio.file.Files;
import java.nio.file.Path;

/** README.md tells every call of the face, and its example answers what it says there. */
public final class ReadmeTest {
    // The example's lines, in the order in which example() makes them.
    private static final String[] EXAMPLE = {
        "int ale = cellar.brew(0, 500, 120, 0); // tank 0, 500 litres, extract 120, a keen yeast",
        "cellar.print(ale, 300);                // labels \"ALE 4.9% OF TANK 0\"",
        "cellar.pass(4);                        // now it is ripe",
        "cellar.bottle(ale, 100);               // 300 pence for stamps of class 1",
        "cellar.measure(ale, 51);               // class 2: 300 pence are owed, 200 labels are void",
        "cellar.pay(100000);                    // 300 pence are paid, nothing is owed"};

    private static final Check check = new Check();

    public static void main(String[] args) throws IOException {
        String readme = Files.readString(Path.of("README.md"));
        tellsEveryCall(readme);
        holdsTheExample(readme);
        example();
        check.end();
    }

    private static void tellsEveryCall(String readme) {
        for (Method method : Cellarscheduler.class.getDeclaredMethods()) {
            if (Modifier.isPublic(method.getModifiers())) {
                String row = "| `" + method.getName() + "(";
                check.due("README has a row of " + method.getName(), 1, readme.contains(row) ? 1 : 0);
            }
        }
    }

    private static void holdsTheExample(String readme) {
        StringBuilder lines = new StringBuilder("Cellarscheduler cellar = new Cellarscheduler();\n");
        for (String line : EXAMPLE) {
            lines.append(line).append('\n');
        }
        check.due("README has the example", 1, readme.contains(lines) ? 1 : 0);
    }

    private static void example() {
        Cellarscheduler cellar = new Cellarscheduler();
        int ale = cellar.brew(0, 500, 120, 0);
        check.due("litres", 500, cellar.ofBrew(ale, Cellars.LITRES));
        cellar.print(ale, 300);
        check.due("labels", "ALE 4.9% OF TANK 0", Cellars.text(cellar, ale));
        cellar.pass(4);
        check.due("ripe", 1, cellar.ofBrew(ale, Cellars.STATE));
        check.due("class of the stamps", 1, cellar.ofBrew(ale, Cellars.CLASS));
        check.due("pence for stamps", 300, cellar.bottle(ale, 100));
        check.due("owed by the measure", 300, cellar.measure(ale, 51));
        check.due("class", 2, cellar.ofBrew(ale, Cellars.CLASS));
        check.due("labels that are void", 200, cellar.ofBrew(ale, Cellars.VOID));
        check.due("paid to the crown", 300, cellar.pay(100000));
        check.due("owed", 0, cellar.owed());
    }
}
