/** The sections "Promise 1" to "Promise 16", each sentence that names a boundary case by a test of its own. */
public final class PromiseEdgeTest {
    private static final int NONE = PackageRows2.NONE;
    private static final int RANGE = PackageRows2.RANGE;
    private static final int STATE = PackageRows2.STATE;
    private static final int FULL = PackageRows2.FULL;
    private static final int LEAST = Integer.MIN_VALUE;
    private static final int MOST = Integer.MAX_VALUE;

    public static void main(String[] args) {
        newObject();
        path();
        octet();
        file();
        line();
        sum();
        check();
        fault();
        accept();
        drop();
        files();
        about();
        sign();
        at();
        find();
        same();
        Due.end();
    }

    private static void newObject() {
        noVersions();
        nothingCame();
        nothingIsCollected();
        objectsBesideEachOther();
    }

    private static void noVersions() {
        Due.words("promise 1", "No versions");
        Due due = new Due();
        Due.same("files(0)", due.rows.files(0), NONE);
        Due.same("about(0, 0, 0)", due.rows.about(0, 0, 0), NONE);
        Due.same("sign(0, 0, 0)", due.rows.sign(0, 0, 0), NONE);
        Due.same("at(0, 0, 0)", due.at(0, 0, 0), NONE);
        Due.same("find(0)", due.rows.find(0), NONE);
        Due.same("same(0, 0)", due.rows.same(0, 0), NONE);
        Due.same("split(0, 1)", due.rows.split(0, 1), NONE);
        Due.same("piece(0, true)", due.rows.piece(0, true), RANGE);
        Due.same("missing()", due.rows.missing(), NONE);
        Due.same("joined(0)", due.rows.joined(0), STATE);
    }

    private static void nothingCame() {
        Due.words("promise 1", "nothing came");
        Due due = new Due();
        Due.same("fault(0, 0)", due.fault(0, 0), Due.NO_SUCH_ELEMENT);
        Due.same("check()", due.rows.check(), 0);
        Due.same("fault(0, 0) behind check()", due.fault(0, 0), Due.NO_SUCH_ELEMENT);
        Due.same("drop()", due.rows.drop(), 0);
    }

    private static void nothingIsCollected() {
        Due.words("promise 1", "nothing is collected");
        Due due = new Due();
        Due.same("sum()", due.rows.sum(), 1);
        Due.same("file()", due.rows.file(), RANGE);
        Due.same("line(0, 1)", due.rows.line(0, 1), RANGE);
    }

    private static void objectsBesideEachOther() {
        Due.words("promise 1", "No versions; nothing came, nothing is collected: beside a used object");
        Due used = new Due();
        used.both("a", 1);
        used.rows.accept();
        used.rows.split(0, 1);
        used.file("b");
        used.rows.check();
        used.path("c").bytes(3);
        Due due = new Due();
        Due.same("files(0)", due.rows.files(0), NONE);
        Due.same("sum()", due.rows.sum(), 1);
        Due.same("missing()", due.rows.missing(), NONE);
        Due.same("fault(0, 0)", due.fault(0, 0), Due.NO_SUCH_ELEMENT);
        Due.same("file()", due.rows.file(), RANGE);
        Due.same("drop()", due.rows.drop(), 0);
        Due.same("drop() of the used one", used.rows.drop(), 1);
    }

    private static void path() {
        pathOfWideSigns();
        pathBeyondThirty();
        pathOfAWholeRun();
    }

    private static void pathOfWideSigns() {
        Due.words("promise 2", "(its lowest eight bits)");
        int[] wide = {'a' + 256, 'a' - 256, 'a' | 0x7fffff00, 'a' | LEAST, 'a'};
        for (int sign : wide) {
            Due due = new Due();
            due.rows.path(sign);
            Due.same("file() of " + sign, due.rows.file(), 1);
            due.line("a", 0, 1);
            due.rows.accept();
            Due.same("sign(0, 0, 0) of " + sign, due.rows.sign(0, 0, 0), 'a');
        }
        int[] others = {0, 255, 256, -1, 'A' + 256, LEAST, MOST};
        for (int sign : others) {
            Due due = new Due();
            due.rows.path(sign);
            Due.same("file() of " + sign, due.rows.file(), RANGE);
        }
    }

    private static void pathBeyondThirty() {
        Due.words("promise 2", "beyond 30 it is lost");
        for (int length = 29; length <= 32; length++) {
            Due due = new Due();
            due.both("a".repeat(24));
            due.rows.accept();
            due.path("a".repeat(length));
            Due.same("find(0) of " + length, due.rows.find(0), NONE);
            Due.same("file() of " + length, due.rows.file(), RANGE);
            Due.same("file() of a path behind it", due.file("a".repeat(24)), 1);
            Due.same("line() of " + length, due.line("a".repeat(length), 0, 1), RANGE);
            Due.same("line() of a path behind it", due.line("a".repeat(24), 0, 1), 1);
            Due.same("accept()", due.rows.accept(), 1);
        }
    }

    private static void pathOfAWholeRun() {
        Due.words("promise 2", "beyond 30 it is lost: as many as a run may have");
        Due due = new Due();
        due.path("a".repeat(500));
        Due.same("file()", due.rows.file(), RANGE);
        Due.same("file() of a path behind it", due.file("b"), 1);
    }

    private static void octet() {
        octetsOfWideBytes();
        octetsBeyondForty();
        octetsOfAWholeRun();
    }

    private static void octetsOfWideBytes() {
        Due.words("promise 3", "(the lowest eight bits)");
        int[] told = {0, 255, 256, -1, -255, -256, 511, LEAST, MOST, 0x80};
        int[] kept = {0, 255, 0, 255, 1, 0, 255, 0, 255, 128};
        Due due = new Due();
        due.bytes(told);
        Due.same("sum()", due.rows.sum(), Due.sumOf(kept));
        due.path("a").rows.file();
        due.line("a", kept.length, Due.sumOf(kept));
        Due.same("accept()", due.rows.accept(), 0);
        for (int k = 0; k < kept.length; k++) {
            Due.same("at(0, 0, " + k + ")", due.at(0, 0, k), kept[k]);
        }
    }

    private static int[] upTo(int count) {
        int[] bytes = new int[count];
        for (int k = 0; k < count; k++) {
            bytes[k] = k + 1;
        }
        return bytes;
    }

    private static void octetsBeyondForty() {
        Due.words("promise 3", "beyond 40 it is lost");
        Due due = new Due();
        due.bytes(upTo(39));
        Due.same("sum() of 39", due.rows.sum(), Due.sumOf(upTo(39)));
        due.bytes(40);
        Due.same("sum() of 40", due.rows.sum(), Due.sumOf(upTo(40)));
        due.bytes(41);
        Due.same("sum() of 41", due.rows.sum(), Due.sumOf(upTo(40)));
        due.bytes(42, 43);
        due.path("a").rows.file();
        Due.same("line()", due.line("a", 40, Due.sumOf(upTo(40))), 1);
        Due.same("accept()", due.rows.accept(), 0);
        Due.same("at(0, 0, 0)", due.at(0, 0, 0), 1);
        Due.same("at(0, 0, 39)", due.at(0, 0, 39), 40);
    }

    private static void octetsOfAWholeRun() {
        Due.words("promise 3", "beyond 40 it is lost: as many as a run may have");
        Due due = new Due();
        due.bytes(Due.repeat(500, 2));
        Due.same("sum()", due.rows.sum(), Due.sumOf(Due.repeat(40, 2)));
    }

    private static void file() {
        fileWithoutBytes();
        fileTakesAllThatIsCollected();
        fileTakesItAlsoIfRange();
        fileTakesItAlsoIfFull();
        refusedFilesAreNotCounted();
        fullFilesAreNotKept();
    }

    private static void fileWithoutBytes() {
        Due.words("promise 4", "the path and bytes that are collected: no bytes");
        Due due = new Due();
        Due.same("file()", due.file("a"), 1);
        due.line("a", 0, 1);
        Due.same("accept()", due.rows.accept(), 0);
        Due.same("about(0, 0, 0)", due.rows.about(0, 0, 0), 0);
    }

    private static void fileTakesAllThatIsCollected() {
        Due.words("promise 4", "nothing is collected then");
        Due due = new Due();
        due.file("a", 1);
        Due.same("sum()", due.rows.sum(), 1);
        Due.same("file()", due.rows.file(), RANGE);
        Due.same("file() of b", due.file("b"), 2);
    }

    private static void fileTakesItAlsoIfRange() {
        Due.words("promise 4", "also if it can't be: RANGE");
        Due due = new Due();
        Due.same("file() of //", due.file("//", 1), RANGE);
        Due.same("sum()", due.rows.sum(), 1);
        Due.same("file() of a", due.file("a", 2), 1);
        Due.same("line() of a", due.line("a", 1, Due.sumOf(2)), 1);
        Due.same("accept()", due.rows.accept(), 0);
    }

    private static void fileTakesItAlsoIfFull() {
        Due.words("promise 4", "also if it can't be: FULL");
        Due due = new Due();
        for (int i = 0; i < 12; i++) {
            due.file("a");
        }
        Due.same("file()", due.file("b", 1), FULL);
        Due.same("sum()", due.rows.sum(), 1);
        Due.same("line(0, 1)", due.rows.line(0, 1), RANGE);
        due.rows.drop();
        Due.same("file() of c", due.file("c"), 1);
        due.line("c", 0, 1);
        Due.same("accept()", due.rows.accept(), 0);
    }

    private static void refusedFilesAreNotCounted() {
        Due.words("promise 4", "how many came");
        Due due = new Due();
        Due.same("file() of a", due.file("a"), 1);
        Due.same("file() of no path", due.rows.file(), RANGE);
        Due.same("file() of a again", due.file("a"), 2);
        due.rows.drop();
        Due.same("file() behind drop()", due.file("a"), 1);
        due.line("a", 0, 1);
        due.rows.accept();
        Due.same("file() behind accept()", due.file("a"), 1);
    }

    private static void fullFilesAreNotKept() {
        Due.words("promise 4", "FULL");
        Due due = new Due();
        for (int i = 0; i < 11; i++) {
            due.file("a");
        }
        Due.same("file() number 12", due.file("b"), 12);
        Due.same("file() number 13", due.file("c"), FULL);
        Due.same("check()", due.rows.check(), 12);
        Due.same("drop()", due.rows.drop(), 12);
    }

    private static void line() {
        lineTakesThePath();
        lineTakesThePathAlsoIfRange();
        lineTakesThePathAlsoIfFull();
        lineLeavesTheBytes();
        sizeTooSmall();
        sizeAtItsEnds();
        sizeTooLarge();
        anySum();
        refusedLinesAreNotCounted();
        fullLinesAreNotKept();
    }

    private static void lineTakesThePath() {
        Due.words("promise 5", "(it is gone then)");
        Due due = new Due();
        Due.same("line() of a", due.line("a", 0, 1), 1);
        Due.same("line() of no path", due.rows.line(0, 1), RANGE);
        Due.same("file() of no path", due.rows.file(), RANGE);
    }

    private static void lineTakesThePathAlsoIfRange() {
        Due.words("promise 5", "(it is gone then): RANGE");
        Due due = new Due();
        Due.same("line(41, 1) of a", due.line("a", 41, 1), RANGE);
        Due.same("file() of no path", due.rows.file(), RANGE);
        Due.same("line(0, 1) of /", due.line("/", 0, 1), RANGE);
        Due.same("file() of b", due.file("b"), 1);
        Due.same("line() of b", due.line("b", 0, 1), 1);
        Due.same("accept()", due.rows.accept(), 0);
    }

    private static void lineTakesThePathAlsoIfFull() {
        Due.words("promise 5", "(it is gone then): FULL");
        Due due = new Due();
        for (int i = 0; i < 12; i++) {
            due.line("a", 0, 1);
        }
        Due.same("line()", due.line("b", 0, 1), FULL);
        Due.same("file() of no path", due.rows.file(), RANGE);
    }

    private static void lineLeavesTheBytes() {
        Due.words("promise 5", "the path that is collected");
        Due due = new Due();
        due.bytes(8, 9);
        due.line("a", 2, Due.sumOf(8, 9));
        Due.same("sum()", due.rows.sum(), Due.sumOf(8, 9));
        due.line("a", -1, 0);
        Due.same("sum() behind RANGE", due.rows.sum(), Due.sumOf(8, 9));
        due.path("a").rows.file();
        Due.same("accept()", due.rows.accept(), 0);
    }

    private static void sizeTooSmall() {
        Due.words("promise 5", "a size 0 .. 40: too small");
        int[] sizes = {-1, -2, -40, -256, LEAST};
        for (int size : sizes) {
            Due.same("line(" + size + ", 1)", new Due().line("a", size, 1), RANGE);
        }
    }

    private static void sizeAtItsEnds() {
        Due.words("promise 5", "a size 0 .. 40: 0 and 40");
        for (int size = 0; size <= 40; size += 40) {
            Due due = new Due();
            Due.same("line() of " + size, due.line("a", size, Due.sumOf(Due.repeat(size, 3))), 1);
            due.file("a", Due.repeat(size, 3));
            Due.same("accept() of " + size, due.rows.accept(), 0);
        }
    }

    private static void sizeTooLarge() {
        Due.words("promise 5", "a size 0 .. 40: too large");
        int[] sizes = {41, 42, 256, MOST};
        for (int size : sizes) {
            Due.same("line(" + size + ", 1)", new Due().line("a", size, 1), RANGE);
        }
    }

    private static void anySum() {
        Due.words("promise 5", "a SUM: any number of 32 bits");
        int[] sums = {LEAST, -1, 0, 1, MOST};
        for (int sum : sums) {
            Due.same("line(0, " + sum + ")", new Due().line("a", 0, sum), 1);
        }
    }

    private static void refusedLinesAreNotCounted() {
        Due.words("promise 5", "how many lines");
        Due due = new Due();
        Due.same("line() of a", due.line("a", 0, 1), 1);
        Due.same("line(41, 1)", due.line("a", 41, 1), RANGE);
        Due.same("line() of no path", due.rows.line(0, 1), RANGE);
        Due.same("line() of a again", due.line("a", 0, 1), 2);
        due.rows.drop();
        Due.same("line() behind drop()", due.line("a", 0, 1), 1);
        due.file("a");
        due.rows.accept();
        Due.same("line() behind accept()", due.line("a", 0, 1), 1);
    }

    private static void fullLinesAreNotKept() {
        Due.words("promise 5", "FULL");
        Due due = new Due();
        for (int i = 0; i < 11; i++) {
            due.line("a", 0, 1);
        }
        Due.same("line() number 12", due.line("b", 0, 1), 12);
        Due.same("line() number 13", due.line("c", 0, 1), FULL);
        Due.same("check()", due.rows.check(), 12);
        Due.same("drop()", due.rows.drop(), 12);
    }

    private static void sum() {
        bytesStay();
        sumOfNothing();
    }

    private static void bytesStay() {
        Due.words("promise 6", "(they stay)");
        Due due = new Due();
        due.bytes(1, 2);
        Due.same("sum()", due.rows.sum(), 8327106);
        Due.same("sum() again", due.rows.sum(), 8327106);
        due.bytes(3);
        Due.same("sum() with one more", due.rows.sum(), Due.sumOf(1, 2, 3));
        due.path("a").rows.file();
        due.line("a", 3, Due.sumOf(1, 2, 3));
        Due.same("accept()", due.rows.accept(), 0);
    }

    private static void sumOfNothing() {
        Due.words("promise 6", "the bytes that are collected: none");
        Due due = new Due();
        Due.same("sum()", due.rows.sum(), 1);
        due.path("a");
        Due.same("sum() with a path", due.rows.sum(), 1);
        due.bytes(1).rows.file();
        Due.same("sum() behind file()", due.rows.sum(), 1);
    }

    private static void check() {
        noFaults();
        theMostFaults();
        checkChangesNothingThatCame();
    }

    private static void noFaults() {
        Due.words("promise 7", "how many FAULTS: none");
        Due due = new Due();
        Due.same("check() of nothing", due.rows.check(), 0);
        due.both("a", 1);
        Due.same("check() of what fits", due.rows.check(), 0);
    }

    private static void theMostFaults() {
        Due.words("promise 7", "how many FAULTS: all lines and all files");
        Due due = new Due();
        for (int i = 0; i < 12; i++) {
            due.line("a", 0, 1);
            due.file("b");
        }
        Due.same("check()", due.rows.check(), 24);
        Due.same("fault(0, 0)", due.fault(0, 0), 2);
        Due.same("fault(11, 0)", due.fault(11, 0), 1);
        Due.same("fault(11, 1)", due.fault(11, 1), 11);
        Due.same("fault(12, 0)", due.fault(12, 0), 6);
        Due.same("fault(12, 1)", due.fault(12, 1), 0);
        Due.same("fault(23, 0)", due.fault(23, 0), 5);
        Due.same("fault(23, 1)", due.fault(23, 1), 11);
        Due.same("fault(24, 0)", due.fault(24, 0), Due.NO_SUCH_ELEMENT);
        Due.same("accept()", due.rows.accept(), -34);
    }

    private static void checkChangesNothingThatCame() {
        Due.words("promise 7", "A CHECK");
        Due due = new Due();
        due.both("a", 1);
        due.file("b");
        Due.same("check()", due.rows.check(), 1);
        Due.same("check() again", due.rows.check(), 1);
        due.line("b", 0, 1);
        Due.same("check() mended", due.rows.check(), 0);
        Due.same("files(0)", due.rows.files(0), NONE);
        Due.same("drop()", due.rows.drop(), 4);
    }

    private static void fault() {
        faultsFromZeroOn();
        faultsThatAreNot();
        anotherWhat();
        faultBeforeAnyCheck();
        faultBehindACheckWithout();
        theLatestCheckStays();
    }

    private static Due withTwoFaults() {
        Due due = new Due();
        due.both("a");
        due.file("b");
        due.line("c", 0, 1);
        due.rows.check();
        return due;
    }

    private static void faultsFromZeroOn() {
        Due.words("promise 8", "from 0 on");
        Due due = withTwoFaults();
        Due.same("fault(0, 0)", due.fault(0, 0), 2);
        Due.same("fault(0, 1)", due.fault(0, 1), 1);
        Due.same("fault(1, 0)", due.fault(1, 0), 6);
        Due.same("fault(1, 1)", due.fault(1, 1), 1);
        Due first = new Due();
        first.line("a", 0, 1);
        first.file("b");
        first.rows.check();
        Due.same("the first line's number", first.fault(0, 1), 0);
        Due.same("the first file's number", first.fault(1, 1), 0);
    }

    private static void faultsThatAreNot() {
        Due.words("promise 8", "NoSuchElementException if there is none such");
        Due due = withTwoFaults();
        int[] places = {LEAST, -1, 2, 3, 23, 24, 25, MOST};
        for (int i : places) {
            Due.same("fault(" + i + ", 0)", due.fault(i, 0), Due.NO_SUCH_ELEMENT);
            Due.same("fault(" + i + ", 1)", due.fault(i, 1), Due.NO_SUCH_ELEMENT);
        }
    }

    private static void anotherWhat() {
        Due.words("promise 8", "NONE for another what");
        Due due = withTwoFaults();
        int[] whats = {LEAST, -1, 2, 3, MOST};
        for (int what : whats) {
            Due.same("fault(0, " + what + ")", due.fault(0, what), NONE);
            Due.same("fault(1, " + what + ")", due.fault(1, what), NONE);
        }
    }

    private static void faultBeforeAnyCheck() {
        Due.words("promise 8", "of the latest check: there was none");
        Due due = new Due();
        due.file("a");
        Due.same("fault(0, 0)", due.fault(0, 0), Due.NO_SUCH_ELEMENT);
        Due.same("fault(0, 1)", due.fault(0, 1), Due.NO_SUCH_ELEMENT);
    }

    private static void faultBehindACheckWithout() {
        Due.words("promise 8", "of the latest check: it had no FAULTS");
        Due due = withTwoFaults();
        due.line("b", 0, 1);
        due.file("c");
        due.rows.check();
        Due.same("fault(0, 0)", due.fault(0, 0), Due.NO_SUCH_ELEMENT);
    }

    private static void theLatestCheckStays() {
        Due.words("promise 8", "of the latest check: what comes or goes behind it");
        Due due = withTwoFaults();
        due.file("d");
        due.line("b", 0, 1);
        due.faults("behind file() and line()", 2, 1, 6, 1);
        due.rows.drop();
        due.faults("behind drop()", 2, 1, 6, 1);
        due.file("e");
        due.rows.check();
        due.faults("behind a check with fewer", 6, 0);
    }

    private static void accept() {
        lessHowManyFaults();
        stateIfThereAreTwelve();
        fullIfMoreThanEightCame();
        refusedAcceptLeavesWhatCame();
    }

    private static void lessHowManyFaults() {
        Due.words("promise 9", "-10 less how many FAULTS");
        Due due = new Due();
        for (int i = 1; i <= 12; i++) {
            due.file("a");
            Due.same("accept() of " + i, due.rows.accept(), -10 - i);
        }
        for (int i = 1; i <= 12; i++) {
            due.line("b", 0, 1);
            Due.same("accept() of 12 and " + i, due.rows.accept(), -22 - i);
        }
    }

    private static Due withTwelveVersions() {
        Due due = new Due();
        for (int v = 0; v < 12; v++) {
            due.rows.accept();
        }
        return due;
    }

    private static void stateIfThereAreTwelve() {
        Due.words("promise 9", "STATE if there are 12 (looked at behind the FAULTS)");
        Due due = new Due();
        for (int v = 0; v < 12; v++) {
            Due.same("accept()", due.rows.accept(), v);
        }
        Due.same("accept() of nothing", due.rows.accept(), STATE);
        due.both("a");
        Due.same("accept() of a file", due.rows.accept(), STATE);
        due.file("b");
        Due.same("accept() of a FAULT", due.rows.accept(), -11);
        due.faults("with 12 versions", 6, 1);
    }

    private static void fullIfMoreThanEightCame() {
        Due.words("promise 9", "FULL if more than 8 files came (behind that)");
        for (int count = 7; count <= 12; count++) {
            Due due = new Due();
            for (int i = 0; i < count; i++) {
                due.both("f" + i);
            }
            Due.same("accept() of " + count, due.rows.accept(), count > 8 ? FULL : 0);
            Due.same("files(0)", due.rows.files(0), count > 8 ? NONE : count);
        }
    }

    private static void refusedAcceptLeavesWhatCame() {
        Due.words("promise 9", "nothing happens then");
        Due faulty = new Due();
        faulty.file("a");
        Due.same("accept() of a FAULT", faulty.rows.accept(), -11);
        Due.same("drop() behind a FAULT", faulty.rows.drop(), 1);
        Due late = withTwelveVersions();
        late.both("a");
        Due.same("accept() with 12 versions", late.rows.accept(), STATE);
        Due.same("drop() behind STATE", late.rows.drop(), 2);
        Due large = new Due();
        for (int i = 0; i < 9; i++) {
            large.both("f" + i);
        }
        Due.same("accept() of 9 files", large.rows.accept(), FULL);
        Due.same("drop() behind FULL", large.rows.drop(), 18);
        Due.same("accept() behind drop()", large.rows.accept(), 0);
    }

    private static void drop() {
        dropOfNothing();
        dropOfTheMost();
        dropOfFilesOrLinesAlone();
        dropLeavesWhatIsCollected();
    }

    private static void dropOfNothing() {
        Due.words("promise 10", "how many files and lines there were: none");
        Due due = new Due();
        Due.same("drop()", due.rows.drop(), 0);
        Due.same("drop() again", due.rows.drop(), 0);
        due.both("a");
        due.rows.accept();
        Due.same("drop() behind accept()", due.rows.drop(), 0);
    }

    private static void dropOfTheMost() {
        Due.words("promise 10", "how many files and lines there were: the most");
        Due due = new Due();
        for (int i = 0; i < 13; i++) {
            due.both("f" + i);
        }
        Due.same("drop()", due.rows.drop(), 24);
        Due.same("drop() again", due.rows.drop(), 0);
    }

    private static void dropOfFilesOrLinesAlone() {
        Due.words("promise 10", "What came is dropped");
        Due due = new Due();
        due.file("a");
        Due.same("drop() of a file", due.rows.drop(), 1);
        due.line("b", 0, 1);
        Due.same("check() without the file", due.rows.check(), 1);
        Due.same("drop() of a line", due.rows.drop(), 1);
        Due.same("check() of nothing", due.rows.check(), 0);
        Due.same("file()", due.file("a"), 1);
        Due.same("line()", due.line("a", 0, 1), 1);
    }

    private static void dropLeavesWhatIsCollected() {
        Due.words("promise 10", "What came: not what is collected, nor a version");
        Due due = new Due();
        due.both("a", 1);
        due.rows.accept();
        due.path("b").bytes(2);
        Due.same("drop()", due.rows.drop(), 0);
        Due.same("sum()", due.rows.sum(), Due.sumOf(2));
        Due.same("file()", due.rows.file(), 1);
        Due.same("files(0)", due.rows.files(0), 1);
    }

    private static Due withTwoFiles() {
        Due due = new Due();
        due.both("b/c", 7, 8);
        due.both("a");
        due.rows.accept();
        return due;
    }

    private static void files() {
        filesOfNoVersion();
        filesOfAnEmptyVersion();
    }

    private static void filesOfNoVersion() {
        Due.words("promise 11", "NONE");
        Due due = withTwoFiles();
        Due.same("files(0)", due.rows.files(0), 2);
        int[] versions = {LEAST, -1, 1, 11, 12, MOST};
        for (int version : versions) {
            Due.same("files(" + version + ")", due.rows.files(version), NONE);
        }
        Due full = withTwelveVersions();
        Due.same("files(11) of 12", full.rows.files(11), 0);
        Due.same("files(12) of 12", full.rows.files(12), NONE);
        Due.same("files(-1) of 12", full.rows.files(-1), NONE);
    }

    private static void filesOfAnEmptyVersion() {
        Due.words("promise 11", "How many files a version has: none, the most");
        Due due = new Due();
        due.rows.accept();
        Due.same("files(0)", due.rows.files(0), 0);
        for (int i = 0; i < 8; i++) {
            due.both("f" + i);
        }
        due.rows.accept();
        Due.same("files(1)", due.rows.files(1), 8);
        Due.same("files(0) behind it", due.rows.files(0), 0);
    }

    private static void about() {
        aboutNoVersion();
        aboutNoFile();
        aboutAnotherWhat();
        aboutTheLeast();
        aboutTheMost();
        aboutTheFirstVersion();
    }

    private static void aboutNoVersion() {
        Due.words("promise 12", "NONE: no such version");
        Due due = withTwoFiles();
        int[] versions = {LEAST, -1, 1, 12, MOST};
        for (int version : versions) {
            for (int what = 0; what < 4; what++) {
                Due.same("about(" + version + ", 0, " + what + ")", due.rows.about(version, 0, what), NONE);
            }
        }
        Due.same("about(12, 0, 0) of 12", withTwelveVersions().rows.about(12, 0, 0), NONE);
    }

    private static void aboutNoFile() {
        Due.words("promise 12", "NONE: no such file");
        Due due = withTwoFiles();
        int[] places = {LEAST, -1, 2, 7, 8, MOST};
        for (int i : places) {
            for (int what = 0; what < 4; what++) {
                Due.same("about(0, " + i + ", " + what + ")", due.rows.about(0, i, what), NONE);
            }
        }
    }

    private static void aboutAnotherWhat() {
        Due.words("promise 12", "NONE: another what");
        Due due = withTwoFiles();
        int[] whats = {LEAST, -1, 4, 5, MOST};
        for (int what : whats) {
            Due.same("about(0, 1, " + what + ")", due.rows.about(0, 1, what), NONE);
        }
    }

    private static void aboutTheLeast() {
        Due.words("promise 12", "what 0 .. 1 .. 2: the least");
        Due due = withTwoFiles();
        Due.same("about(0, 0, 0)", due.rows.about(0, 0, 0), 0);
        Due.same("about(0, 0, 1)", due.rows.about(0, 0, 1), 1);
        Due.same("about(0, 0, 2)", due.rows.about(0, 0, 2), 1);
        Due.same("about(0, 0, 3)", due.rows.about(0, 0, 3), 0);
    }

    private static void aboutTheMost() {
        Due.words("promise 12", "what 0 .. 1 .. 2: the most");
        Due due = new Due();
        due.both("x".repeat(24), Due.repeat(40, 255));
        due.rows.accept();
        Due.same("about(0, 0, 0)", due.rows.about(0, 0, 0), 40);
        Due.same("about(0, 0, 1)", due.rows.about(0, 0, 1), -1447464703);
        Due.same("about(0, 0, 2)", due.rows.about(0, 0, 2), 24);
        Due.same("about(0, 0, 3)", due.rows.about(0, 0, 3), 0);
    }

    private static void aboutTheFirstVersion() {
        Due.words("promise 12", "3: the first version that shares it");
        Due due = withTwelveVersionsOf("a", 5);
        Due.same("about(0, 0, 3)", due.rows.about(0, 0, 3), 0);
        Due.same("about(11, 0, 3)", due.rows.about(11, 0, 3), 0);
        Due other = new Due();
        for (int v = 0; v < 12; v++) {
            other.both("a", v);
            other.rows.accept();
        }
        Due.same("about(11, 0, 3) of its own", other.rows.about(11, 0, 3), 11);
        Due.same("about(0, 0, 3) as before", other.rows.about(0, 0, 3), 0);
    }

    private static Due withTwelveVersionsOf(String path, int b) {
        Due due = new Due();
        for (int v = 0; v < 12; v++) {
            due.both(path, b);
            due.rows.accept();
        }
        return due;
    }

    private static void sign() {
        signsThatAre();
        signsThatAreNot();
        signOfNoFile();
    }

    private static void signsThatAre() {
        Due.words("promise 13", "Sign k of that file's path");
        Due due = withTwoFiles();
        Due.same("sign(0, 0, 0)", due.rows.sign(0, 0, 0), 'a');
        Due.same("sign(0, 1, 0)", due.rows.sign(0, 1, 0), 'b');
        Due.same("sign(0, 1, 1)", due.rows.sign(0, 1, 1), '/');
        Due.same("sign(0, 1, 2)", due.rows.sign(0, 1, 2), 'c');
        Due longest = new Due();
        longest.both("abcdefghijklmnopqrstuvw0");
        longest.rows.accept();
        Due.same("sign(0, 0, 23)", longest.rows.sign(0, 0, 23), '0');
        Due.same("sign(0, 0, 24)", longest.rows.sign(0, 0, 24), NONE);
    }

    private static void signsThatAreNot() {
        Due.words("promise 13", "NONE: no such sign");
        Due due = withTwoFiles();
        int[] places = {LEAST, -1, 3, 23, 24, 30, MOST};
        for (int k : places) {
            Due.same("sign(0, 1, " + k + ")", due.rows.sign(0, 1, k), NONE);
        }
        Due.same("sign(0, 0, 1)", due.rows.sign(0, 0, 1), NONE);
    }

    private static void signOfNoFile() {
        Due.words("promise 13", "NONE: no such file or version");
        Due due = withTwoFiles();
        int[] places = {LEAST, -1, 2, 8, MOST};
        for (int place : places) {
            Due.same("sign(0, " + place + ", 0)", due.rows.sign(0, place, 0), NONE);
            Due.same("sign(" + place + ", 0, 0)", due.rows.sign(place, 0, 0), NONE);
        }
        Due.same("sign(1, 0, 0)", due.rows.sign(1, 0, 0), NONE);
    }

    private static void at() {
        bytesAtTheirEnds();
        noSuchByte();
        noSuchByteInAnEmptyFile();
        noSuchFile();
    }

    private static void bytesAtTheirEnds() {
        Due.words("promise 14", "Byte k of that file, 0 .. 255");
        Due due = new Due();
        due.both("a", 0, 127, 128, 255);
        due.rows.accept();
        Due.same("at(0, 0, 0)", due.at(0, 0, 0), 0);
        Due.same("at(0, 0, 1)", due.at(0, 0, 1), 127);
        Due.same("at(0, 0, 2)", due.at(0, 0, 2), 128);
        Due.same("at(0, 0, 3)", due.at(0, 0, 3), 255);
    }

    private static void noSuchByte() {
        Due.words("promise 14", "ArrayIndexOutOfBoundsException if there is no such byte");
        Due due = withTwoFiles();
        int[] places = {LEAST, -1, 2, 3, 39, 40, 41, MOST};
        for (int k : places) {
            Due.same("at(0, 1, " + k + ")", due.at(0, 1, k), Due.OUT_OF_BOUNDS);
        }
        Due.same("at(0, 1, 1)", due.at(0, 1, 1), 8);
        Due full = new Due();
        full.both("a", Due.repeat(40, 1));
        full.rows.accept();
        Due.same("at(0, 0, 39) of 40", full.at(0, 0, 39), 1);
        Due.same("at(0, 0, 40) of 40", full.at(0, 0, 40), Due.OUT_OF_BOUNDS);
    }

    private static void noSuchByteInAnEmptyFile() {
        Due.words("promise 14", "ArrayIndexOutOfBoundsException if there is no such byte: an empty file");
        Due due = withTwoFiles();
        Due.same("at(0, 0, 0)", due.at(0, 0, 0), Due.OUT_OF_BOUNDS);
        Due.same("at(0, 0, -1)", due.at(0, 0, -1), Due.OUT_OF_BOUNDS);
    }

    private static void noSuchFile() {
        Due.words("promise 14", "NONE if there is no such file");
        Due due = withTwoFiles();
        int[] places = {LEAST, -1, 2, 7, 8, MOST};
        for (int i : places) {
            Due.same("at(0, " + i + ", 0)", due.at(0, i, 0), NONE);
            Due.same("at(0, " + i + ", -1)", due.at(0, i, -1), NONE);
            Due.same("at(0, " + i + ", 40)", due.at(0, i, 40), NONE);
            Due.same("at(" + i + ", 0, 0)", due.at(i, 0, 0), NONE);
        }
        Due.same("at(1, 0, 0)", due.at(1, 0, 0), NONE);
        Due.same("at(12, 0, 0) of 12", withTwelveVersions().at(12, 0, 0), NONE);
    }

    private static void find() {
        thePathStays();
        findOfNoVersion();
        findOfNoSuchFile();
        findOfNoPath();
        findAtTheEnds();
    }

    private static void thePathStays() {
        Due.words("promise 15", "(it stays)");
        Due due = withTwoFiles();
        due.path("b");
        Due.same("find(0) of b", due.rows.find(0), NONE);
        due.path("/c");
        Due.same("find(0) of b/c", due.rows.find(0), 1);
        Due.same("find(0) of b/c again", due.rows.find(0), 1);
        Due.same("find(9) of b/c", due.rows.find(9), NONE);
        Due.same("file() of b/c", due.rows.file(), 1);
        due.line("b/c", 0, 1);
        Due.same("accept()", due.rows.accept(), 1);
    }

    private static void findOfNoVersion() {
        Due.words("promise 15", "NONE: no such version");
        Due due = withTwoFiles();
        due.path("a");
        int[] versions = {LEAST, -1, 1, 11, 12, MOST};
        for (int version : versions) {
            Due.same("find(" + version + ")", due.rows.find(version), NONE);
        }
        Due.same("find(0)", due.rows.find(0), 0);
    }

    private static void findOfNoSuchFile() {
        Due.words("promise 15", "NONE: no such file");
        Due due = withTwoFiles();
        Due.same("find(0) of c", due.find(0, "c"), NONE);
        Due.same("find(0) of b/", due.find(0, "b/"), NONE);
        Due.same("find(0) of b/cd", due.find(0, "b/cd"), NONE);
        Due.same("find(0) of aa", due.find(0, "aa"), NONE);
        due.file("c");
        Due.same("find(0) of what only came", due.find(0, "c"), NONE);
    }

    private static void findOfNoPath() {
        Due.words("promise 15", "NONE: no sign, or none that could be a path");
        Due due = withTwoFiles();
        Due.same("find(0) of nothing", due.rows.find(0), NONE);
        Due.same("find(0) of /", due.find(0, "/"), NONE);
        Due.same("find(0) of A", due.find(0, "A"), NONE);
        Due.same("find(0) of 31 signs", due.find(0, "a".repeat(31)), NONE);
        Due empty = new Due();
        empty.rows.accept();
        Due.same("find(0) of nothing in an empty version", empty.rows.find(0), NONE);
    }

    private static void findAtTheEnds() {
        Due.words("promise 15", "from 0 on");
        Due due = new Due();
        for (int i = 7; i >= 0; i--) {
            due.both("f" + i);
        }
        due.rows.accept();
        Due.same("find(0) of the first", due.find(0, "f0"), 0);
        Due.same("find(0) of the last", due.find(0, "f7"), 7);
    }

    private static void same() {
        sameOfNoVersion();
        sameOfAVersionAndItself();
        sameOfFarVersions();
        sameOfNothing();
        sameOfTheSamePathAlone();
    }

    private static void sameOfNoVersion() {
        Due.words("promise 16", "NONE");
        Due due = withTwoFiles();
        int[] versions = {LEAST, -1, 1, 12, MOST};
        for (int version : versions) {
            Due.same("same(0, " + version + ")", due.rows.same(0, version), NONE);
            Due.same("same(" + version + ", 0)", due.rows.same(version, 0), NONE);
            Due.same("same(" + version + ", " + version + ")", due.rows.same(version, version), NONE);
        }
    }

    private static void sameOfAVersionAndItself() {
        Due.words("promise 16", "two versions: one and itself");
        Due.same("same(0, 0)", withTwoFiles().rows.same(0, 0), 2);
        Due due = new Due();
        for (int i = 0; i < 8; i++) {
            due.both("f" + i, i);
        }
        due.rows.accept();
        Due.same("same(0, 0) of 8", due.rows.same(0, 0), 8);
    }

    private static void sameOfFarVersions() {
        Due.words("promise 16", "or have alike bytes in the same path");
        Due due = new Due();
        due.both("a", 1);
        due.both("b");
        due.rows.accept();
        due.both("a", 2);
        due.rows.accept();
        due.both("a", 1);
        due.both("b");
        due.rows.accept();
        Due.same("about(2, 0, 3): not shared", due.rows.about(2, 0, 3), 2);
        Due.same("same(0, 2)", due.rows.same(0, 2), 2);
        Due.same("same(2, 0)", due.rows.same(2, 0), 2);
        Due.same("same(0, 1)", due.rows.same(0, 1), 0);
        Due chain = withTwelveVersionsOf("a", 5);
        Due.same("same(0, 11)", chain.rows.same(0, 11), 1);
    }

    private static void sameOfNothing() {
        Due.words("promise 16", "How many files: none");
        Due due = withTwoFiles();
        due.rows.accept();
        due.rows.accept();
        Due.same("same(0, 1)", due.rows.same(0, 1), 0);
        Due.same("same(1, 0)", due.rows.same(1, 0), 0);
        Due.same("same(1, 2)", due.rows.same(1, 2), 0);
    }

    private static void sameOfTheSamePathAlone() {
        Due.words("promise 16", "alike bytes in the same path: one of the two is not enough");
        Due due = new Due();
        due.both("a", 1);
        due.both("b", 2);
        due.rows.accept();
        due.both("a", 2);
        due.both("b", 2, 2);
        due.both("c", 1);
        due.rows.accept();
        Due.same("same(0, 1)", due.rows.same(0, 1), 0);
        Due.same("same(1, 0)", due.rows.same(1, 0), 0);
    }
}
