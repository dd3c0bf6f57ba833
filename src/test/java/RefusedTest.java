import java.util.ArrayList;
import java.util.List;
import java.util.function.Consumer;
import java.util.function.ToIntFunction;

/**
 * "Nothing happens then": a call that is refused, and a call that only asks, leave an object as it was.
 * Each is made on one of two objects that had the same calls before; then both are looked at and compared.
 */
public final class RefusedTest {
    private static final int NONE = PackageRows2.NONE;
    private static final int RANGE = PackageRows2.RANGE;
    private static final int STATE = PackageRows2.STATE;
    private static final int FULL = PackageRows2.FULL;
    private static final int LEAST = Integer.MIN_VALUE;
    private static final int MOST = Integer.MAX_VALUE;
    private static final Consumer<Due> NOTHING = due -> { };

    public static void main(String[] args) {
        files();
        lines();
        acceptances();
        versionsThatAreNot();
        throwsOfFault();
        throwsOfAt();
        splits();
        pieces();
        joins();
        callsThatOnlyAsk();
        Due.end();
    }

    /** Something of all that an object can hold: versions, a TRANSFER, FAULTS, what came, what is collected. */
    private static void fill(Due due) {
        due.both("b/c", 1, 2);
        due.both("a", 3);
        due.rows.accept();
        due.both("a", 3);
        due.rows.accept();
        due.rows.split(0, 2);
        due.rows.piece(1, true);
        due.file("d", 4);
        due.line("e", 0, 1);
        due.rows.check();
        due.file("f", 5, 6);
        due.path("a").bytes(7);
    }

    private static void fillWithTwelveFiles(Due due) {
        fill(due);
        due.rows.line(-1, 0);
        for (int i = due.file("g"); i < 12; i++) {
            due.file("g");
        }
        due.path("a").bytes(7);
    }

    private static void fillWithTwelveLines(Due due) {
        fill(due);
        due.rows.line(-1, 0);
        for (int i = due.line("g", 0, 1); i < 12; i++) {
            due.line("g", 0, 1);
        }
        due.path("a");
    }

    private static void fillWithTwelveVersions(Due due) {
        fill(due);
        due.rows.file();
        due.rows.drop();
        for (int v = 2; v < 12; v++) {
            due.rows.accept();
        }
        due.both("h", 7);
        due.path("a").bytes(8);
    }

    private static void fillWithNineFiles(Due due) {
        fill(due);
        due.rows.file();
        due.rows.drop();
        for (int i = 0; i < 9; i++) {
            due.both("i" + i, i);
        }
        due.path("a").bytes(8);
    }

    /** Whatever the face can tell; what would change the object is asked last. */
    private static List<Long> lookAt(Due due) {
        List<Long> seen = new ArrayList<>();
        PackageRows2 rows = due.rows;
        seen.add((long) rows.sum());
        for (int v = 0; v < 3; v++) {
            seen.add((long) rows.files(v));
            seen.add((long) rows.find(v));
            seen.add((long) rows.same(0, v));
            for (int i = 0; i < 2; i++) {
                lookAtFile(due, v, i, seen);
            }
        }
        seen.add((long) rows.files(11));
        seen.add((long) rows.missing());
        seen.add((long) rows.piece(0, false));
        seen.add((long) rows.joined(0));
        lookAtFaults(due, seen);
        seen.add((long) rows.check());
        lookAtFaults(due, seen);
        lookAtWhatIsCollected(due, seen);
        seen.add((long) rows.accept());
        seen.add((long) rows.drop());
        seen.add((long) rows.piece(0, true));
        for (int i = 0; i < 4; i++) {
            seen.add((long) rows.joined(i));
        }
        return seen;
    }

    private static void lookAtFile(Due due, int v, int i, List<Long> seen) {
        for (int what = 0; what < 4; what++) {
            seen.add((long) due.rows.about(v, i, what));
        }
        for (int k = 0; k < 4; k++) {
            seen.add((long) due.rows.sign(v, i, k));
        }
        for (int k = 0; k < 3; k++) {
            seen.add((long) due.at(v, i, k));
        }
    }

    private static void lookAtFaults(Due due, List<Long> seen) {
        for (int i = 0; i < 24; i++) {
            seen.add((long) due.fault(i, 0));
            seen.add((long) due.fault(i, 1));
        }
    }

    /** The path and the bytes become a file of the next version, if there is room for one. */
    private static void lookAtWhatIsCollected(Due due, List<Long> seen) {
        PackageRows2 rows = due.rows;
        seen.add((long) rows.drop());
        int sum = rows.sum();
        int count = rows.file();
        seen.add((long) count);
        due.line("a", 1, sum);
        int version = rows.accept();
        seen.add((long) version);
        seen.add((long) rows.about(version, 0, 2));
        seen.add((long) due.at(version, 0, 0));
    }

    /** The twin has what the document lets happen all the same, such as the path that is gone. */
    private static void leaves(String call, Consumer<Due> before, Consumer<Due> twin, ToIntFunction<Due> asked,
            int due) {
        Due one = new Due();
        Due two = new Due();
        before.accept(one);
        before.accept(two);
        twin.accept(two);
        Due.same(call, asked.applyAsInt(one), due);
        List<Long> seenOne = lookAt(one);
        List<Long> seenTwo = lookAt(two);
        Due.same(call + ": as many answers behind it", seenOne.size(), seenTwo.size());
        for (int i = 0; i < seenTwo.size(); i++) {
            Due.same(call + ": answer " + i + " behind it", seenOne.get(i), seenTwo.get(i));
        }
    }

    private static void leaves(String call, ToIntFunction<Due> asked, int due) {
        leaves(call, RefusedTest::fill, NOTHING, asked, due);
    }

    private static void files() {
        Due.words("file", "nothing happens then");
        Consumer<Due> badPath = due -> {
            fill(due);
            due.path("//");
        };
        // file() takes the path and the bytes also if it is refused, so they go in the twin too.
        Consumer<Due> gone = due -> {
            due.rows.line(-1, 0);
            due.rows.file();
        };
        leaves("file() of no path", badPath, gone, due -> due.rows.file(), RANGE);
        leaves("file() number 13", RefusedTest::fillWithTwelveFiles, gone, due -> due.rows.file(), FULL);
    }

    private static void lines() {
        Due.words("line", "nothing happens then");
        Consumer<Due> badPath = due -> {
            fill(due);
            due.path("//");
        };
        Consumer<Due> gone = due -> due.rows.line(-1, 0);
        leaves("line() of no path", badPath, gone, due -> due.rows.line(0, 1), RANGE);
        leaves("line(41, 1)", RefusedTest::fill, gone, due -> due.rows.line(41, 1), RANGE);
        leaves("line() number 13", RefusedTest::fillWithTwelveLines, gone, due -> due.rows.line(0, 1), FULL);
    }

    private static void acceptances() {
        Due.words("accept", "nothing happens then");
        Consumer<Due> checked = due -> due.rows.check();
        leaves("accept() of FAULTS", RefusedTest::fill, checked, due -> due.rows.accept(), -13);
        leaves("accept() with 12 versions", RefusedTest::fillWithTwelveVersions, checked,
            due -> due.rows.accept(), STATE);
        leaves("accept() of 9 files", RefusedTest::fillWithNineFiles, checked, due -> due.rows.accept(), FULL);
    }

    private static void versionsThatAreNot() {
        Due.words("files, about, sign, find, same", "nothing happens then");
        int[] versions = {LEAST, -1, 2, 12, MOST};
        for (int v : versions) {
            leaves("files(" + v + ")", due -> due.rows.files(v), NONE);
            leaves("about(" + v + ", 0, 0)", due -> due.rows.about(v, 0, 0), NONE);
            leaves("about(0, " + v + ", 0)", due -> due.rows.about(0, v, 0), NONE);
            leaves("sign(" + v + ", 0, 0)", due -> due.rows.sign(v, 0, 0), NONE);
            leaves("sign(0, " + v + ", 0)", due -> due.rows.sign(0, v, 0), NONE);
            leaves("sign(0, 0, " + v + ")", due -> due.rows.sign(0, 0, v), NONE);
            leaves("find(" + v + ")", due -> due.rows.find(v), NONE);
            leaves("same(0, " + v + ")", due -> due.rows.same(0, v), NONE);
            leaves("same(" + v + ", 0)", due -> due.rows.same(v, 0), NONE);
        }
        leaves("about(0, 0, 4)", due -> due.rows.about(0, 0, 4), NONE);
    }

    private static void throwsOfFault() {
        Due.words("fault", "nothing happens then");
        leaves("fault(2, 0)", due -> due.fault(2, 0), Due.NO_SUCH_ELEMENT);
        leaves("fault(-1, 1)", due -> due.fault(-1, 1), Due.NO_SUCH_ELEMENT);
        leaves("fault(0, 2)", due -> due.fault(0, 2), NONE);
    }

    private static void throwsOfAt() {
        Due.words("at", "nothing happens then");
        leaves("at(0, 0, 1)", due -> due.at(0, 0, 1), Due.OUT_OF_BOUNDS);
        leaves("at(0, 0, -1)", due -> due.at(0, 0, -1), Due.OUT_OF_BOUNDS);
        leaves("at(0, 2, 0)", due -> due.at(0, 2, 0), NONE);
        leaves("at(2, 0, 0)", due -> due.at(2, 0, 0), NONE);
    }

    private static void splits() {
        Due.words("split", "nothing happens then");
        leaves("split(2, 1)", due -> due.rows.split(2, 1), NONE);
        leaves("split(-1, 0)", due -> due.rows.split(-1, 0), NONE);
        leaves("split(1, 0)", due -> due.rows.split(1, 0), RANGE);
        leaves("split(1, 101)", due -> due.rows.split(1, 101), RANGE);
    }

    private static void pieces() {
        Due.words("piece", "nothing happens then");
        leaves("piece(2, true)", due -> due.rows.piece(2, true), RANGE);
        leaves("piece(-1, true)", due -> due.rows.piece(-1, true), RANGE);
        leaves("piece(0, false)", due -> due.rows.piece(0, false), 1);
        leaves("piece(1, false)", due -> due.rows.piece(1, false), 1);
        leaves("piece(1, true)", due -> due.rows.piece(1, true), 1);
    }

    private static void joins() {
        Due.words("joined", "nothing happens then");
        leaves("joined(0)", due -> due.rows.joined(0), STATE);
        Consumer<Due> whole = due -> {
            fill(due);
            due.rows.piece(0, true);
        };
        leaves("joined(3)", whole, NOTHING, due -> due.rows.joined(3), NONE);
        leaves("joined(-1)", whole, NOTHING, due -> due.rows.joined(-1), NONE);
        leaves("joined(0) of all", whole, NOTHING, due -> due.rows.joined(0), 3);
        leaves("missing() of all", whole, NOTHING, due -> due.rows.missing(), NONE);
    }

    private static void callsThatOnlyAsk() {
        Due.words("sum, fault, files, about, sign, at, find, same, missing", "(they stay), (it stays)");
        leaves("sum()", due -> due.rows.sum(), Due.sumOf(7));
        leaves("fault(0, 0)", due -> due.fault(0, 0), 2);
        leaves("files(0)", due -> due.rows.files(0), 2);
        leaves("about(1, 0, 3)", due -> due.rows.about(1, 0, 3), 0);
        leaves("sign(0, 1, 1)", due -> due.rows.sign(0, 1, 1), '/');
        leaves("at(0, 1, 1)", due -> due.at(0, 1, 1), 2);
        leaves("find(0)", due -> due.rows.find(0), 0);
        leaves("same(0, 1)", due -> due.rows.same(0, 1), 1);
        leaves("missing()", due -> due.rows.missing(), 0);
    }
}
