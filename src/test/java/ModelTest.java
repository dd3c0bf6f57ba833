import java.util.ArrayDeque;
import java.util.Deque;
import java.util.Random;
import java.util.function.IntSupplier;

/** Runs of at most 512 calls on PackageRows2 and on Model, drawn with written seeds: the answers must agree. */
public final class ModelTest {
    private static final int RUNS = 4000;
    private static final int CALLS = 512;
    private static final String[] PATHS = {
        "a", "b", "ab", "a/b", "a.b", "c0", ".d", "e/f/g", "0", "x...", "aaaaaaaaaaaaaaaaaaaaaaaa", "z"
    };
    private static final String[] WRONG_PATHS = {
        "", "/", "a/", "/a", "a//b", ".", "..", "a/..", "./a", "A", "aaaaaaaaaaaaaaaaaaaaaaaaa",
        "aaaaaaaaaaaaaaaaaaaaaaaaaaaaaaa"
    };
    private static final int[] EDGES = {
        Integer.MIN_VALUE, -257, -2, -1, 7, 8, 9, 11, 12, 13, 24, 30, 40, 41, 100, 101, 319, 320, Integer.MAX_VALUE
    };

    private final Random random;
    private final int run;
    private final PackageRows2 rows = new PackageRows2();
    private final Model model = new Model();
    private final Deque<Runnable> planned = new ArrayDeque<>();

    private ModelTest(int run) {
        this.run = run;
        this.random = new Random(run);
    }

    public static void main(String[] args) {
        for (int run = 0; run < RUNS; run++) {
            new ModelTest(run).callAll();
        }
        Due.end();
    }

    private void callAll() {
        for (int i = 0; i < CALLS; i++) {
            if (planned.isEmpty()) {
                plan();
            }
            planned.poll().run();
        }
    }

    private static long answer(IntSupplier call) {
        try {
            return call.getAsInt();
        } catch (RuntimeException e) {
            return (1L << 40) + e.getClass().getName().hashCode();
        }
    }

    private void compare(String call, IntSupplier got, IntSupplier want) {
        Due.same("run " + run + ": " + call, answer(got), answer(want));
    }

    /** Mostly 0 to below the bound, sometimes an edge. */
    private int number(int bound) {
        return random.nextInt(12) == 0 ? EDGES[random.nextInt(EDGES.length)] : random.nextInt(bound);
    }

    private void plan() {
        switch (random.nextInt(run % 3 == 0 ? 12 : 7)) {
            case 0, 1 -> planFitting();
            case 2 -> planned.add(this::accept);
            case 3 -> planTransfer();
            case 4 -> planFile(anyPath(), random.nextInt(4), random.nextInt(3));
            case 5 -> planLine(anyPath(), number(4), random.nextInt());
            default -> planned.add(this::anyCall);
        }
    }

    private String anyPath() {
        return random.nextInt(5) == 0 ? WRONG_PATHS[random.nextInt(WRONG_PATHS.length)]
            : PATHS[random.nextInt(PATHS.length)];
    }

    private void planPath(String path) {
        for (char c : path.toCharArray()) {
            int wide = c + 256 * (random.nextInt(3) - 1);
            planned.add(() -> path(wide));
        }
    }

    private void planFile(String path, int size, int byteKind) {
        planPath(path);
        for (int i = 0; i < size; i++) {
            int b = byteKind == 0 ? random.nextInt() : byteKind * 100 + i;
            planned.add(() -> octet(b));
        }
        planned.add(this::file);
    }

    private void planLine(String path, int size, int sum) {
        planPath(path);
        planned.add(() -> line(size, sum));
    }

    /** A few files with lines that fit, so that versions come about. */
    private void planFitting() {
        if (random.nextInt(3) > 0) {
            planned.add(this::drop);
        }
        int count = random.nextInt(20) == 0 ? PATHS.length : random.nextInt(5);
        int from = random.nextInt(PATHS.length);
        for (int i = 0; i < count; i++) {
            String path = PATHS[(from + 5 * i) % PATHS.length];
            int size = random.nextInt(25) == 0 ? 41 : random.nextInt(3);
            int kept = Math.min(40, size);
            int[] bytes = new int[kept];
            for (int k = 0; k < kept; k++) {
                bytes[k] = (100 + k) & 255;
            }
            planFile(path, size, 1);
            planLine(path, kept, Due.sumOf(bytes));
        }
        planned.add(random.nextInt(4) == 0 ? this::check : this::accept);
        planned.add(this::anyCall);
        planned.add(this::anyCall);
    }

    private void planTransfer() {
        int version = number(4);
        int length = number(6);
        planned.add(() -> compare("split(" + version + ", " + length + ")",
            () -> rows.split(version, length), () -> model.split(version, length)));
        int count = random.nextInt(8);
        for (int i = 0; i < count; i++) {
            int piece = random.nextInt(4) == 0 ? number(6) : i;
            boolean unspoilt = random.nextInt(6) > 0;
            planned.add(() -> compare("piece(" + piece + ", " + unspoilt + ")",
                () -> rows.piece(piece, unspoilt), () -> model.piece(piece, unspoilt)));
        }
        int place = number(8);
        planned.add(() -> compare("missing()", rows::missing, model::missing));
        planned.add(() -> compare("joined(" + place + ")", () -> rows.joined(place), () -> model.joined(place)));
    }

    private void path(int c) {
        rows.path(c);
        model.path(c);
    }

    private void octet(int b) {
        rows.octet(b);
        model.octet(b);
    }

    private void file() {
        compare("file()", rows::file, model::file);
    }

    private void line(int size, int sum) {
        compare("line(" + size + ", " + sum + ")", () -> rows.line(size, sum), () -> model.line(size, sum));
    }

    private void check() {
        compare("check()", rows::check, model::check);
    }

    private void accept() {
        compare("accept()", rows::accept, model::accept);
    }

    private void drop() {
        compare("drop()", rows::drop, model::drop);
    }

    private void anyCall() {
        int v = number(5);
        int i = number(6);
        int k = number(6);
        String three = "(" + v + ", " + i + ", " + k + ")";
        switch (random.nextInt(17)) {
            case 0 -> path(random.nextInt());
            case 1 -> octet(random.nextInt());
            case 2 -> compare("sum()", rows::sum, model::sum);
            case 3 -> check();
            case 4, 5 -> compare("fault(" + i + ", " + v + ")", () -> rows.fault(i, v), () -> model.fault(i, v));
            case 6 -> compare("fault(" + i + ", 0)", () -> rows.fault(i, 0), () -> model.fault(i, 0));
            case 7 -> drop();
            case 8 -> compare("files(" + v + ")", () -> rows.files(v), () -> model.files(v));
            case 9, 10 -> compare("about" + three, () -> rows.about(v, i, k), () -> model.about(v, i, k));
            case 11 -> compare("sign" + three, () -> rows.sign(v, i, k), () -> model.sign(v, i, k));
            case 12 -> compare("at" + three, () -> rows.at(v, i, k), () -> model.at(v, i, k));
            case 13 -> compare("find(" + v + ")", () -> rows.find(v), () -> model.find(v));
            case 14 -> compare("same(" + v + ", " + i + ")", () -> rows.same(v, i), () -> model.same(v, i));
            case 15 -> compare("missing()", rows::missing, model::missing);
            default -> compare("joined(" + k + ")", () -> rows.joined(k), () -> model.joined(k));
        }
    }
}
