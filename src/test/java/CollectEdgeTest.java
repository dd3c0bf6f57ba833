/** The sections "Promise 1" to "Promise 6", each sentence that names a boundary case by a test of its own. */
public final class CollectEdgeTest {
    private static final int NONE = PackageRows2.NONE;
    private static final int RANGE = PackageRows2.RANGE;
    private static final int STATE = PackageRows2.STATE;
    private static final int FULL = PackageRows2.FULL;
    private static final int LEAST = Integer.MIN_VALUE;
    private static final int MOST = Integer.MAX_VALUE;

    public static void main(String[] args) {
        newObject();
        path();
        octet();
        file();
        line();
        sum();
        Due.end();
    }

    private static void newObject() {
        noVersions();
        nothingCame();
        nothingIsCollected();
        objectsBesideEachOther();
        theLastCall();
    }

    private static void noVersions() {
        Due.words("promise 1", "No versions");
        Due due = new Due();
        Due.same("files(0)", due.rows.files(0), NONE);
        Due.same("about(0, 0, 0)", due.rows.about(0, 0, 0), NONE);
        Due.same("sign(0, 0, 0)", due.rows.sign(0, 0, 0), NONE);
        Due.same("at(0, 0, 0)", due.at(0, 0, 0), NONE);
        Due.same("find(0)", due.rows.find(0), NONE);
        Due.same("same(0, 0)", due.rows.same(0, 0), NONE);
        Due.same("split(0, 1)", due.rows.split(0, 1), NONE);
        Due.same("piece(0, true)", due.rows.piece(0, true), RANGE);
        Due.same("missing()", due.rows.missing(), NONE);
        Due.same("joined(0)", due.rows.joined(0), STATE);
    }

    private static void nothingCame() {
        Due.words("promise 1", "nothing came");
        Due due = new Due();
        Due.same("fault(0, 0)", due.fault(0, 0), Due.NO_SUCH_ELEMENT);
        Due.same("check()", due.rows.check(), 0);
        Due.same("fault(0, 0) behind check()", due.fault(0, 0), Due.NO_SUCH_ELEMENT);
        Due.same("drop()", due.rows.drop(), 0);
    }

    private static void nothingIsCollected() {
        Due.words("promise 1", "nothing is collected");
        Due due = new Due();
        Due.same("sum()", due.rows.sum(), 1);
        Due.same("file()", due.rows.file(), RANGE);
        Due.same("line(0, 1)", due.rows.line(0, 1), RANGE);
    }

    private static void objectsBesideEachOther() {
        Due.words("promise 1", "No versions; nothing came, nothing is collected: beside a used object");
        Due used = new Due();
        used.both("a", 1);
        used.rows.accept();
        used.rows.split(0, 1);
        used.file("b");
        used.rows.check();
        used.path("c").bytes(3);
        Due due = new Due();
        Due.same("files(0)", due.rows.files(0), NONE);
        Due.same("sum()", due.rows.sum(), 1);
        Due.same("missing()", due.rows.missing(), NONE);
        Due.same("fault(0, 0)", due.fault(0, 0), Due.NO_SUCH_ELEMENT);
        Due.same("file()", due.rows.file(), RANGE);
        Due.same("drop()", due.rows.drop(), 0);
        Due.same("drop() of the used one", used.rows.drop(), 1);
    }

    private static void theLastCall() {
        Due.words("What it is", "at most 512 calls after it has been made");
        Due due = new Due();
        for (int call = 0; call < 503; call++) {
            due.rows.octet(call);
        }
        due.path("a").rows.file();
        due.line("a", 40, Due.sumOf(upTo(40, 0)));
        Due.same("accept(), the 508th call", due.rows.accept(), 0);
        Due.same("split(0, 40), the 509th call", due.rows.split(0, 40), 1);
        Due.same("piece(0, true), the 510th call", due.rows.piece(0, true), 0);
        Due.same("joined(39), the 511th call", due.rows.joined(39), 39);
        Due.same("at(0, 0, 40), the 512th call", due.at(0, 0, 40), Due.OUT_OF_BOUNDS);
    }

    private static void path() {
        pathOfWideSigns();
        pathBeyondThirty();
        pathOfAWholeRun();
    }

    private static void pathOfWideSigns() {
        Due.words("promise 2", "(its lowest eight bits)");
        int[] wide = {'a' + 256, 'a' - 256, 'a' | 0x7fffff00, 'a' | LEAST, 'a'};
        for (int sign : wide) {
            Due due = new Due();
            due.rows.path(sign);
            Due.same("file() of " + sign, due.rows.file(), 1);
            due.line("a", 0, 1);
            due.rows.accept();
            Due.same("sign(0, 0, 0) of " + sign, due.rows.sign(0, 0, 0), 'a');
        }
        int[] others = {0, 255, 256, -1, 'A' + 256, 'a' + 128, LEAST, MOST};
        for (int sign : others) {
            Due due = new Due();
            due.rows.path(sign);
            Due.same("file() of " + sign, due.rows.file(), RANGE);
        }
    }

    private static void pathBeyondThirty() {
        Due.words("promise 2", "beyond 30 it is lost");
        for (int length = 29; length <= 32; length++) {
            Due due = new Due();
            due.both("a".repeat(24));
            due.rows.accept();
            due.path("a".repeat(length));
            Due.same("find(0) of " + length, due.rows.find(0), NONE);
            Due.same("file() of " + length, due.rows.file(), RANGE);
            Due.same("file() of a path behind it", due.file("a".repeat(24)), 1);
            Due.same("line() of " + length, due.line("a".repeat(length), 0, 1), RANGE);
            Due.same("line() of a path behind it", due.line("a".repeat(24), 0, 1), 1);
            Due.same("accept()", due.rows.accept(), 1);
        }
    }

    private static void pathOfAWholeRun() {
        Due.words("promise 2", "beyond 30 it is lost: as many as a run may have");
        Due due = new Due();
        due.path("a".repeat(500));
        Due.same("file()", due.rows.file(), RANGE);
        Due.same("file() of a path behind it", due.file("b"), 1);
    }

    private static void octet() {
        octetsOfWideBytes();
        octetsBeyondForty();
        octetsOfAWholeRun();
    }

    private static void octetsOfWideBytes() {
        Due.words("promise 3", "(the lowest eight bits)");
        int[] told = {0, 255, 256, -1, -255, -256, 511, LEAST, MOST, 0x80};
        int[] kept = {0, 255, 0, 255, 1, 0, 255, 0, 255, 128};
        Due due = new Due();
        due.bytes(told);
        Due.same("sum()", due.rows.sum(), Due.sumOf(kept));
        due.path("a").rows.file();
        due.line("a", kept.length, Due.sumOf(kept));
        Due.same("accept()", due.rows.accept(), 0);
        for (int k = 0; k < kept.length; k++) {
            Due.same("at(0, 0, " + k + ")", due.at(0, 0, k), kept[k]);
        }
    }

    private static int[] upTo(int count, int first) {
        int[] bytes = new int[count];
        for (int k = 0; k < count; k++) {
            bytes[k] = first + k;
        }
        return bytes;
    }

    private static void octetsBeyondForty() {
        Due.words("promise 3", "beyond 40 it is lost");
        Due due = new Due();
        due.bytes(upTo(39, 1));
        Due.same("sum() of 39", due.rows.sum(), Due.sumOf(upTo(39, 1)));
        due.bytes(40);
        Due.same("sum() of 40", due.rows.sum(), Due.sumOf(upTo(40, 1)));
        due.bytes(41);
        Due.same("sum() of 41", due.rows.sum(), Due.sumOf(upTo(40, 1)));
        due.bytes(42, 43);
        due.path("a").rows.file();
        Due.same("line()", due.line("a", 40, Due.sumOf(upTo(40, 1))), 1);
        Due.same("accept()", due.rows.accept(), 0);
        Due.same("at(0, 0, 0)", due.at(0, 0, 0), 1);
        Due.same("at(0, 0, 39)", due.at(0, 0, 39), 40);
    }

    private static void octetsOfAWholeRun() {
        Due.words("promise 3", "beyond 40 it is lost: as many as a run may have");
        Due due = new Due();
        due.bytes(Due.repeat(500, 2));
        Due.same("sum()", due.rows.sum(), Due.sumOf(Due.repeat(40, 2)));
    }

    private static void file() {
        fileWithoutBytes();
        fileTakesAllThatIsCollected();
        fileTakesItAlsoIfRange();
        fileTakesItAlsoIfFull();
        refusedFilesAreNotCounted();
        fullFilesAreNotKept();
    }

    private static void fileWithoutBytes() {
        Due.words("promise 4", "the path and bytes that are collected: no bytes");
        Due due = new Due();
        Due.same("file()", due.file("a"), 1);
        due.line("a", 0, 1);
        Due.same("accept()", due.rows.accept(), 0);
        Due.same("about(0, 0, 0)", due.rows.about(0, 0, 0), 0);
    }

    private static void fileTakesAllThatIsCollected() {
        Due.words("promise 4", "nothing is collected then");
        Due due = new Due();
        due.file("a", 1);
        Due.same("sum()", due.rows.sum(), 1);
        Due.same("file()", due.rows.file(), RANGE);
        Due.same("file() of b", due.file("b"), 2);
    }

    private static void fileTakesItAlsoIfRange() {
        Due.words("promise 4", "also if it can't be: RANGE");
        Due due = new Due();
        Due.same("file() of //", due.file("//", 1), RANGE);
        Due.same("sum()", due.rows.sum(), 1);
        Due.same("file() of a", due.file("a", 2), 1);
        Due.same("line() of a", due.line("a", 1, Due.sumOf(2)), 1);
        Due.same("accept()", due.rows.accept(), 0);
    }

    private static void fileTakesItAlsoIfFull() {
        Due.words("promise 4", "also if it can't be: FULL");
        Due due = new Due();
        for (int i = 0; i < 12; i++) {
            due.file("a");
        }
        Due.same("file()", due.file("b", 1), FULL);
        Due.same("sum()", due.rows.sum(), 1);
        Due.same("line(0, 1)", due.rows.line(0, 1), RANGE);
        due.rows.drop();
        Due.same("file() of c", due.file("c"), 1);
        due.line("c", 0, 1);
        Due.same("accept()", due.rows.accept(), 0);
    }

    private static void refusedFilesAreNotCounted() {
        Due.words("promise 4", "how many came");
        Due due = new Due();
        Due.same("file() of a", due.file("a"), 1);
        Due.same("file() of no path", due.rows.file(), RANGE);
        Due.same("file() of a again", due.file("a"), 2);
        due.rows.drop();
        Due.same("file() behind drop()", due.file("a"), 1);
        due.line("a", 0, 1);
        due.rows.accept();
        Due.same("file() behind accept()", due.file("a"), 1);
    }

    private static void fullFilesAreNotKept() {
        Due.words("promise 4", "FULL");
        Due due = new Due();
        for (int i = 0; i < 11; i++) {
            due.file("a");
        }
        Due.same("file() number 12", due.file("b"), 12);
        Due.same("file() number 13", due.file("c"), FULL);
        Due.same("check()", due.rows.check(), 12);
        Due.same("drop()", due.rows.drop(), 12);
    }

    private static void line() {
        lineTakesThePath();
        lineTakesThePathAlsoIfRange();
        lineTakesThePathAlsoIfFull();
        lineLeavesTheBytes();
        sizeTooSmall();
        sizeAtItsEnds();
        sizeTooLarge();
        anySum();
        refusedLinesAreNotCounted();
        fullLinesAreNotKept();
    }

    private static void lineTakesThePath() {
        Due.words("promise 5", "(it is gone then)");
        Due due = new Due();
        Due.same("line() of a", due.line("a", 0, 1), 1);
        Due.same("line() of no path", due.rows.line(0, 1), RANGE);
        Due.same("file() of no path", due.rows.file(), RANGE);
    }

    private static void lineTakesThePathAlsoIfRange() {
        Due.words("promise 5", "(it is gone then): RANGE");
        Due due = new Due();
        Due.same("line(41, 1) of a", due.line("a", 41, 1), RANGE);
        Due.same("file() of no path", due.rows.file(), RANGE);
        Due.same("line(0, 1) of /", due.line("/", 0, 1), RANGE);
        Due.same("file() of b", due.file("b"), 1);
        Due.same("line() of b", due.line("b", 0, 1), 1);
        Due.same("accept()", due.rows.accept(), 0);
    }

    private static void lineTakesThePathAlsoIfFull() {
        Due.words("promise 5", "(it is gone then): FULL");
        Due due = new Due();
        for (int i = 0; i < 12; i++) {
            due.line("a", 0, 1);
        }
        Due.same("line()", due.line("b", 0, 1), FULL);
        Due.same("file() of no path", due.rows.file(), RANGE);
    }

    private static void lineLeavesTheBytes() {
        Due.words("promise 5", "the path that is collected");
        Due due = new Due();
        due.bytes(8, 9);
        due.line("a", 2, Due.sumOf(8, 9));
        Due.same("sum()", due.rows.sum(), Due.sumOf(8, 9));
        due.line("a", -1, 0);
        Due.same("sum() behind RANGE", due.rows.sum(), Due.sumOf(8, 9));
        due.path("a").rows.file();
        Due.same("accept()", due.rows.accept(), 0);
    }

    private static void sizeTooSmall() {
        Due.words("promise 5", "a size 0 .. 40: too small");
        int[] sizes = {-1, -2, -40, -256, LEAST};
        for (int size : sizes) {
            Due.same("line(" + size + ", 1)", new Due().line("a", size, 1), RANGE);
        }
    }

    private static void sizeAtItsEnds() {
        Due.words("promise 5", "a size 0 .. 40: 0 and 40");
        for (int size = 0; size <= 40; size += 40) {
            Due due = new Due();
            Due.same("line() of " + size, due.line("a", size, Due.sumOf(Due.repeat(size, 3))), 1);
            due.file("a", Due.repeat(size, 3));
            Due.same("accept() of " + size, due.rows.accept(), 0);
        }
    }

    private static void sizeTooLarge() {
        Due.words("promise 5", "a size 0 .. 40: too large");
        int[] sizes = {41, 42, 256, MOST};
        for (int size : sizes) {
            Due.same("line(" + size + ", 1)", new Due().line("a", size, 1), RANGE);
        }
    }

    private static void anySum() {
        Due.words("promise 5", "a SUM: any number of 32 bits");
        int[] sums = {LEAST, -1, 0, 1, MOST};
        for (int sum : sums) {
            Due.same("line(0, " + sum + ")", new Due().line("a", 0, sum), 1);
        }
    }

    private static void refusedLinesAreNotCounted() {
        Due.words("promise 5", "how many lines");
        Due due = new Due();
        Due.same("line() of a", due.line("a", 0, 1), 1);
        Due.same("line(41, 1)", due.line("a", 41, 1), RANGE);
        Due.same("line() of no path", due.rows.line(0, 1), RANGE);
        Due.same("line() of a again", due.line("a", 0, 1), 2);
        due.rows.drop();
        Due.same("line() behind drop()", due.line("a", 0, 1), 1);
        due.file("a");
        due.rows.accept();
        Due.same("line() behind accept()", due.line("a", 0, 1), 1);
    }

    private static void fullLinesAreNotKept() {
        Due.words("promise 5", "FULL");
        Due due = new Due();
        for (int i = 0; i < 11; i++) {
            due.line("a", 0, 1);
        }
        Due.same("line() number 12", due.line("b", 0, 1), 12);
        Due.same("line() number 13", due.line("c", 0, 1), FULL);
        Due.same("check()", due.rows.check(), 12);
        Due.same("drop()", due.rows.drop(), 12);
    }

    private static void sum() {
        bytesStay();
        sumOfNothing();
    }

    private static void bytesStay() {
        Due.words("promise 6", "(they stay)");
        Due due = new Due();
        due.bytes(1, 2);
        Due.same("sum()", due.rows.sum(), 8327106);
        Due.same("sum() again", due.rows.sum(), 8327106);
        due.bytes(3);
        Due.same("sum() with one more", due.rows.sum(), Due.sumOf(1, 2, 3));
        due.path("a").rows.file();
        due.line("a", 3, Due.sumOf(1, 2, 3));
        Due.same("accept()", due.rows.accept(), 0);
    }

    private static void sumOfNothing() {
        Due.words("promise 6", "the bytes that are collected: none");
        Due due = new Due();
        Due.same("sum()", due.rows.sum(), 1);
        due.path("a");
        Due.same("sum() with a path", due.rows.sum(), 1);
        due.bytes(1).rows.file();
        Due.same("sum() behind file()", due.rows.sum(), 1);
    }
}
