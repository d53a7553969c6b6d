import java.util.ArrayList;
import java.util.List;
import java.util.Random;

/** Compares RoverMinutes with the plain model over many runs of at most 512 calls, always the same ones. */
public final class ModelTest {
    private static final int RUNS = 3000;
    private static final int CALLS = 512;

    private final Random random;
    private final int run;
    private final RoverMinutes rover = new RoverMinutes();
    private final PlainModel model = new PlainModel();
    private final List<String> told = new ArrayList<>();
    private boolean wrong;

    private ModelTest(int run) {
        this.run = run;
        random = new Random(run);
    }

    public static void main(String[] args) {
        long calls = 0;
        int wrong = 0;
        for (int run = 0; run < RUNS; run++) {
            ModelTest test = new ModelTest(run);
            test.go();
            calls += test.told.size();
            wrong += test.wrong ? 1 : 0;
        }
        System.out.println("ModelTest: " + calls + " calls in " + RUNS + " runs, " + wrong + " runs not as the model");
        if (wrong != 0) {
            System.exit(1);
        }
    }

    private void go() {
        while (!wrong && told.size() < CALLS - 40) {
            step();
        }
    }

    private void step() {
        switch (random.nextInt(16)) {
            case 0:
                typePlan();
                call("submit");
                break;
            case 1:
                call("enable");
                break;
            case 2:
                if (random.nextInt(4) == 0) {
                    call("cancel");
                }
                break;
            case 3:
                call("lasts", index(), mostly(1, 40, 2));
                break;
            case 4:
                call("draws", index(), random.nextBoolean() ? mostly(0, 200, 2) : random.nextInt(10));
                break;
            case 5:
                setUp();
                break;
            case 6:
            case 7:
                call("minutes", random.nextInt(6) == 0 ? mostly(0, 60, 2) : 1 + random.nextInt(4));
                break;
            case 8:
                typeAnything();
                break;
            default:
                ask();
                break;
        }
    }

    private void setUp() {
        switch (random.nextInt(5)) {
            case 0:
                call("gain", random.nextInt(3) == 0 ? -1 : mostly(0, 100, 2) / (1 + random.nextInt(5)));
                break;
            case 1:
                call("home", mostly(1, 20, 2), mostly(0, 99, 2) / (1 + random.nextInt(4)));
                break;
            case 2:
                call("fill", mostly(0, 1000, 2), mostly(0, 500, 2) / (1 + random.nextInt(5)));
                break;
            default:
                for (int k = random.nextInt(6); k >= 0; k--) {
                    call("curve", mostly(0, 23, 1), mostly(0, 50, 1));
                }
                break;
        }
    }

    private void ask() {
        switch (random.nextInt(9)) {
            case 0:
                call("now");
                break;
            case 1:
                call("mode");
                break;
            case 2:
                call("level", mostly(0, 2, 1));
                break;
            case 3:
                call("reserve");
                break;
            case 4:
                call("activities");
                break;
            case 5:
                call("lowest");
                break;
            case 6:
                call("could", index());
                break;
            default:
                int i = index();
                for (int what = -1; what <= 6; what++) {
                    call("activity", i, what);
                }
                break;
        }
    }

    /** A number of a range, now and then one that is a little outside. */
    private int mostly(int least, int most, int over) {
        return random.nextInt(12) == 0
            ? (random.nextBoolean() ? most + random.nextInt(over + 1) : least - random.nextInt(over + 1))
            : least + random.nextInt(most - least + 1);
    }

    private int index() {
        return random.nextInt(20) == 0 ? -1 + random.nextInt(10) : random.nextInt(Math.max(1, model.activities()));
    }

    private void typePlan() {
        String text = plan();
        if (random.nextInt(5) == 0) {
            text = spoil(text);
        }
        for (int four : Runs.fours(text)) {
            call("type", four);
        }
    }

    private void typeAnything() {
        if (random.nextInt(4) == 0) {
            call("type", random.nextInt(3) == 0 ? random.nextInt() : random.nextInt(0x10000) & 0x7F7F);
        }
    }

    private String plan() {
        int count = 1 + random.nextInt(random.nextInt(3) == 0 ? 8 : 5);
        int rich = random.nextInt(4);
        StringBuilder text = new StringBuilder();
        for (int i = 0; i < count; i++) {
            int shortest = 1 + random.nextInt(random.nextInt(5) == 0 ? 30 : 4);
            int longest = Math.min(30, shortest + random.nextInt(5)) + (random.nextInt(80) == 0 ? 5 : 0);
            text.append(i == 0 ? "" : ";").append((char) ('a' + i)).append(shortest).append('-').append(longest);
            for (int k = random.nextInt(2 + rich); k > 0; k--) {
                text.append(option(i, count));
            }
        }
        return text.toString();
    }

    private String option(int i, int count) {
        switch (random.nextInt(8)) {
            case 0:
            case 1:
                return "E" + random.nextInt(random.nextInt(3) == 0 ? 100 : 30);
            case 2:
                return "D" + random.nextInt(random.nextInt(3) == 0 ? 100 : 30);
            case 3:
                return "H" + random.nextInt(100);
            case 4:
                return "<" + random.nextInt(random.nextInt(3) == 0 ? 100 : 20);
            case 5:
                return "*" + random.nextInt(random.nextInt(10) == 0 ? 6 : 4);
            default:
                String sign = random.nextInt(3) == 0 ? "/" : ">";
                int most = random.nextInt(6) == 0 ? count + 1 : Math.max(1, i);
                return sign + (char) ('a' + random.nextInt(most));
        }
    }

    private String spoil(String text) {
        String signs = "abch0123959-;;EDH<*>/ x~A";
        int at = random.nextInt(text.length() + 1);
        char c = signs.charAt(random.nextInt(signs.length()));
        switch (random.nextInt(4)) {
            case 0:
                return text.substring(0, at);
            case 1:
                return text.substring(0, at) + text.substring(Math.min(text.length(), at + 1));
            case 2:
                return text.substring(0, at) + c + text.substring(Math.min(text.length(), at + 1));
            default:
                return text.substring(0, at) + c + text.substring(at);
        }
    }

    private void call(String verb, int... numbers) {
        if (wrong) {
            return;
        }
        String got = Runs.face(rover, verb, numbers);
        String want = Runs.face(model, verb, numbers);
        StringBuilder row = new StringBuilder(verb);
        for (int number : numbers) {
            row.append(' ').append(number);
        }
        told.add(row + " -> " + want);
        if (!got.equals(want)) {
            wrong = true;
            System.out.println("ModelTest run " + run + ": " + row + " answered " + got + ", the model says " + want);
            System.out.println("  behind " + told.subList(Math.max(0, told.size() - 30), told.size()));
        }
    }
}
