/** The sections "Promise 7" to "Promise 10", each sentence that names a boundary case by a test of its own. */
public final class CheckEdgeTest {
    private static final int NONE = PackageRows2.NONE;
    private static final int STATE = PackageRows2.STATE;
    private static final int FULL = PackageRows2.FULL;
    private static final int LEAST = Integer.MIN_VALUE;
    private static final int MOST = Integer.MAX_VALUE;

    public static void main(String[] args) {
        check();
        fault();
        accept();
        drop();
        Due.end();
    }

    private static void check() {
        noFaults();
        theMostFaults();
        checkChangesNothingThatCame();
    }

    private static void noFaults() {
        Due.words("promise 7", "how many FAULTS: none");
        Due due = new Due();
        Due.same("check() of nothing", due.rows.check(), 0);
        due.both("a", 1);
        Due.same("check() of what fits", due.rows.check(), 0);
    }

    private static void theMostFaults() {
        Due.words("promise 7", "how many FAULTS: all lines and all files");
        Due due = new Due();
        for (int i = 0; i < 12; i++) {
            due.line("a", 0, 1);
            due.file("b");
        }
        Due.same("check()", due.rows.check(), 24);
        Due.same("fault(0, 0)", due.fault(0, 0), 2);
        Due.same("fault(11, 0)", due.fault(11, 0), 1);
        Due.same("fault(11, 1)", due.fault(11, 1), 11);
        Due.same("fault(12, 0)", due.fault(12, 0), 6);
        Due.same("fault(12, 1)", due.fault(12, 1), 0);
        Due.same("fault(23, 0)", due.fault(23, 0), 5);
        Due.same("fault(23, 1)", due.fault(23, 1), 11);
        Due.same("fault(24, 0)", due.fault(24, 0), Due.NO_SUCH_ELEMENT);
        Due.same("accept()", due.rows.accept(), -34);
    }

    private static void checkChangesNothingThatCame() {
        Due.words("promise 7", "A CHECK");
        Due due = new Due();
        due.both("a", 1);
        due.file("b");
        Due.same("check()", due.rows.check(), 1);
        Due.same("check() again", due.rows.check(), 1);
        due.line("b", 0, 1);
        Due.same("check() mended", due.rows.check(), 0);
        Due.same("files(0)", due.rows.files(0), NONE);
        Due.same("drop()", due.rows.drop(), 4);
    }

    private static void fault() {
        faultsFromZeroOn();
        faultsThatAreNot();
        anotherWhat();
        faultBeforeAnyCheck();
        faultBehindACheckWithout();
        theLatestCheckStays();
    }

    private static Due withTwoFaults() {
        Due due = new Due();
        due.both("a");
        due.file("b");
        due.line("c", 0, 1);
        due.rows.check();
        return due;
    }

    private static void faultsFromZeroOn() {
        Due.words("promise 8", "from 0 on");
        Due due = withTwoFaults();
        Due.same("fault(0, 0)", due.fault(0, 0), 2);
        Due.same("fault(0, 1)", due.fault(0, 1), 1);
        Due.same("fault(1, 0)", due.fault(1, 0), 6);
        Due.same("fault(1, 1)", due.fault(1, 1), 1);
        Due first = new Due();
        first.line("a", 0, 1);
        first.file("b");
        first.rows.check();
        Due.same("the first line's number", first.fault(0, 1), 0);
        Due.same("the first file's number", first.fault(1, 1), 0);
    }

    private static void faultsThatAreNot() {
        Due.words("promise 8", "NoSuchElementException if there is none such");
        Due due = withTwoFaults();
        int[] places = {LEAST, -1, 2, 3, 23, 24, 25, MOST};
        for (int i : places) {
            Due.same("fault(" + i + ", 0)", due.fault(i, 0), Due.NO_SUCH_ELEMENT);
            Due.same("fault(" + i + ", 1)", due.fault(i, 1), Due.NO_SUCH_ELEMENT);
        }
    }

    private static void anotherWhat() {
        Due.words("promise 8", "NONE for another what");
        Due due = withTwoFaults();
        int[] whats = {LEAST, -1, 2, 3, MOST};
        for (int what : whats) {
            Due.same("fault(0, " + what + ")", due.fault(0, what), NONE);
            Due.same("fault(1, " + what + ")", due.fault(1, what), NONE);
        }
    }

    private static void faultBeforeAnyCheck() {
        Due.words("promise 8", "of the latest check: there was none");
        Due due = new Due();
        due.file("a");
        Due.same("fault(0, 0)", due.fault(0, 0), Due.NO_SUCH_ELEMENT);
        Due.same("fault(0, 1)", due.fault(0, 1), Due.NO_SUCH_ELEMENT);
    }

    private static void faultBehindACheckWithout() {
        Due.words("promise 8", "of the latest check: it had no FAULTS");
        Due due = withTwoFaults();
        due.line("b", 0, 1);
        due.file("c");
        due.rows.check();
        Due.same("fault(0, 0)", due.fault(0, 0), Due.NO_SUCH_ELEMENT);
    }

    private static void theLatestCheckStays() {
        Due.words("promise 8", "of the latest check: what comes or goes behind it");
        Due due = withTwoFaults();
        due.file("d");
        due.line("b", 0, 1);
        due.faults("behind file() and line()", 2, 1, 6, 1);
        due.rows.drop();
        due.faults("behind drop()", 2, 1, 6, 1);
        due.file("e");
        due.rows.check();
        due.faults("behind a check with fewer", 6, 0);
    }

    private static void accept() {
        lessHowManyFaults();
        stateIfThereAreTwelve();
        fullIfMoreThanEightCame();
        refusedAcceptLeavesWhatCame();
    }

    private static void lessHowManyFaults() {
        Due.words("promise 9", "-10 less how many FAULTS");
        Due due = new Due();
        for (int i = 1; i <= 12; i++) {
            due.file("a");
            Due.same("accept() of " + i, due.rows.accept(), -10 - i);
        }
        for (int i = 1; i <= 12; i++) {
            due.line("b", 0, 1);
            Due.same("accept() of 12 and " + i, due.rows.accept(), -22 - i);
        }
    }

    private static void stateIfThereAreTwelve() {
        Due.words("promise 9", "STATE if there are 12 (looked at behind the FAULTS)");
        Due due = new Due();
        for (int v = 0; v < 12; v++) {
            Due.same("accept()", due.rows.accept(), v);
        }
        Due.same("accept() of nothing", due.rows.accept(), STATE);
        due.both("a");
        Due.same("accept() of a file", due.rows.accept(), STATE);
        due.file("b");
        Due.same("accept() of a FAULT", due.rows.accept(), -11);
        due.faults("with 12 versions", 6, 1);
    }

    private static void fullIfMoreThanEightCame() {
        Due.words("promise 9", "FULL if more than 8 files came (behind that)");
        for (int count = 7; count <= 12; count++) {
            Due due = new Due();
            for (int i = 0; i < count; i++) {
                due.both("f" + i);
            }
            Due.same("accept() of " + count, due.rows.accept(), count > 8 ? FULL : 0);
            Due.same("files(0)", due.rows.files(0), count > 8 ? NONE : count);
        }
    }

    private static void refusedAcceptLeavesWhatCame() {
        Due.words("promise 9", "nothing happens then");
        Due faulty = new Due();
        faulty.file("a");
        Due.same("accept() of a FAULT", faulty.rows.accept(), -11);
        Due.same("drop() behind a FAULT", faulty.rows.drop(), 1);
        Due late = Due.withVersions(12);
        late.both("a");
        Due.same("accept() with 12 versions", late.rows.accept(), STATE);
        Due.same("drop() behind STATE", late.rows.drop(), 2);
        Due large = new Due();
        for (int i = 0; i < 9; i++) {
            large.both("f" + i);
        }
        Due.same("accept() of 9 files", large.rows.accept(), FULL);
        Due.same("drop() behind FULL", large.rows.drop(), 18);
        Due.same("accept() behind drop()", large.rows.accept(), 0);
    }

    private static void drop() {
        dropOfNothing();
        dropOfTheMost();
        dropOfFilesOrLinesAlone();
        dropLeavesWhatIsCollected();
    }

    private static void dropOfNothing() {
        Due.words("promise 10", "how many files and lines there were: none");
        Due due = new Due();
        Due.same("drop()", due.rows.drop(), 0);
        Due.same("drop() again", due.rows.drop(), 0);
        due.both("a");
        due.rows.accept();
        Due.same("drop() behind accept()", due.rows.drop(), 0);
    }

    private static void dropOfTheMost() {
        Due.words("promise 10", "how many files and lines there were: the most");
        Due due = new Due();
        for (int i = 0; i < 13; i++) {
            due.both("f" + i);
        }
        Due.same("drop()", due.rows.drop(), 24);
        Due.same("drop() again", due.rows.drop(), 0);
    }

    private static void dropOfFilesOrLinesAlone() {
        Due.words("promise 10", "What came is dropped");
        Due due = new Due();
        due.file("a");
        Due.same("drop() of a file", due.rows.drop(), 1);
        due.line("b", 0, 1);
        Due.same("check() without the file", due.rows.check(), 1);
        Due.same("drop() of a line", due.rows.drop(), 1);
        Due.same("check() of nothing", due.rows.check(), 0);
        Due.same("file()", due.file("a"), 1);
        Due.same("line()", due.line("a", 0, 1), 1);
    }

    private static void dropLeavesWhatIsCollected() {
        Due.words("promise 10", "What came: not what is collected, nor a version");
        Due due = new Due();
        due.both("a", 1);
        due.rows.accept();
        due.path("b").bytes(2);
        Due.same("drop()", due.rows.drop(), 0);
        Due.same("sum()", due.rows.sum(), Due.sumOf(2));
        Due.same("file()", due.rows.file(), 1);
        Due.same("files(0)", due.rows.files(0), 1);
    }
}
