/** Promises 7 to 10: check, fault, accept, drop. */
public final class CheckTest {
    private static final int NONE = PackageRows2.NONE;

    public static void main(String[] args) {
        nothingCame();
        eachFaultAlone();
        faultsThatHideOthers();
        firstFileCounts();
        allInOrder();
        mostFaults();
        faultArguments();
        faultTellsTheLatestCheck();
        acceptTellsFaults();
        acceptTellsFaultsAnew();
        acceptStateBehindFaults();
        acceptFullBehindState();
        acceptEight();
        drops();
        Due.end();
    }

    private static void nothingCame() {
        Due due = new Due();
        Due.same("check() of nothing", due.rows.check(), 0);
        due.faults("nothing");
        Due.same("accept() of nothing", due.rows.accept(), 0);
        Due.same("accept() of nothing again", due.rows.accept(), 1);
        Due.same("files(1)", due.rows.files(1), 0);
    }

    private static void eachFaultAlone() {
        Due due = new Due();
        due.both("a", 1);
        due.line("a", 1, Due.sumOf(1));
        Due.same("check() of a line twice", due.rows.check(), 1);
        due.faults("line twice", 1, 1);

        due = new Due();
        due.both("b", 1);
        due.line("a", 1, Due.sumOf(1));
        Due.same("check() of a line without file", due.rows.check(), 1);
        due.faults("line without file", 2, 1);

        due = new Due();
        due.file("a", 1, 2);
        due.line("a", 3, Due.sumOf(1, 2));
        Due.same("check() of another size", due.rows.check(), 1);
        due.faults("another size", 3, 0);

        due = new Due();
        due.file("a", 1, 2);
        due.line("a", 2, Due.sumOf(1, 2) + 1);
        Due.same("check() of another sum", due.rows.check(), 1);
        due.faults("another sum", 4, 0);

        due = new Due();
        due.both("a", 1);
        due.file("a", 1);
        Due.same("check() of a file twice", due.rows.check(), 1);
        due.faults("file twice", 5, 1);

        due = new Due();
        due.both("a", 1);
        due.file("b", 1);
        Due.same("check() of a file without line", due.rows.check(), 1);
        due.faults("file without line", 6, 1);
    }

    private static void faultsThatHideOthers() {
        Due due = new Due();
        due.line("a", 1, 0);
        due.line("a", 2, 0);
        due.line("a", 3, 0);
        Due.same("check() of lines that are doubled and without file", due.rows.check(), 3);
        due.faults("1 before 2", 2, 0, 1, 1, 1, 2);

        due = new Due();
        due.both("a", 1);
        due.line("a", 7, 0);
        due.rows.check();
        due.faults("1 before 3", 1, 1);

        due = new Due();
        due.file("a", 1);
        due.line("a", 2, 0);
        due.rows.check();
        due.faults("3 before 4", 3, 0);

        due = new Due();
        due.file("a");
        due.file("a");
        due.file("a");
        due.rows.check();
        due.faults("5 before 6", 6, 0, 5, 1, 5, 2);
    }

    private static void firstFileCounts() {
        Due due = new Due();
        due.file("a", 1);
        due.file("a", 1, 2);
        due.line("a", 2, Due.sumOf(1, 2));
        due.rows.check();
        due.faults("the first file's size", 3, 0, 5, 1);

        due = new Due();
        due.file("a", 1);
        due.file("a", 2);
        due.line("a", 1, Due.sumOf(2));
        due.rows.check();
        due.faults("the first file's sum", 4, 0, 5, 1);

        due = new Due();
        due.file("a", 1);
        due.file("a", 2);
        due.line("a", 1, Due.sumOf(1));
        due.rows.check();
        due.faults("the first file fits", 5, 1);
    }

    private static void allInOrder() {
        Due due = new Due();
        due.file("none");
        due.file("size", 1);
        due.file("sum", 2);
        due.file("size", 1);
        due.file("good", 3);
        due.line("good", 1, Due.sumOf(3));
        due.line("sum", 1, 0);
        due.line("size", 0, 1);
        due.line("gone", 0, 1);
        due.line("sum", 1, Due.sumOf(2));
        due.line("goo", 1, Due.sumOf(3));
        Due.same("check() of all", due.rows.check(), 7);
        due.faults("all", 4, 1, 3, 2, 2, 3, 1, 4, 2, 5, 6, 0, 5, 3);
        Due.same("accept() of all", due.rows.accept(), -17);
    }

    private static void mostFaults() {
        Due due = new Due();
        int[] expected = new int[48];
        for (int i = 0; i < 12; i++) {
            due.file("f" + i);
            due.line("l" + i, 0, 1);
            expected[2 * i] = 2;
            expected[2 * i + 1] = i;
            expected[24 + 2 * i] = 6;
            expected[24 + 2 * i + 1] = i;
        }
        Due.same("check() of 24 faults", due.rows.check(), 24);
        due.faults("24 faults", expected);
        Due.same("accept() of 24 faults", due.rows.accept(), -34);
        Due.same("drop() of 24", due.rows.drop(), 24);
    }

    private static void faultArguments() {
        Due due = new Due();
        due.file("a");
        due.file("b");
        due.rows.check();
        int[] wrongPlaces = {Integer.MIN_VALUE, -1, 2, 3, 24, Integer.MAX_VALUE};
        for (int i : wrongPlaces) {
            Due.same("fault(" + i + ", 0)", due.fault(i, 0), Due.NO_SUCH_ELEMENT);
            Due.same("fault(" + i + ", 1)", due.fault(i, 1), Due.NO_SUCH_ELEMENT);
        }
        int[] wrongWhats = {Integer.MIN_VALUE, -1, 2, 3, Integer.MAX_VALUE};
        for (int what : wrongWhats) {
            Due.same("fault(0, " + what + ")", due.fault(0, what), NONE);
            Due.same("fault(1, " + what + ")", due.fault(1, what), NONE);
            // The order told: NONE for another what stands before the exception.
            Due.same("fault(2, " + what + ")", due.fault(2, what), NONE);
        }
    }

    private static void faultTellsTheLatestCheck() {
        Due due = new Due();
        due.file("a");
        due.faults("before a check");
        due.rows.check();
        due.line("a", 0, 1);
        due.file("b");
        due.faults("behind more that came", 6, 0);
        due.rows.drop();
        due.faults("behind a drop", 6, 0);
        due.rows.check();
        due.faults("behind a check of nothing");
    }

    private static void acceptTellsFaults() {
        Due due = new Due();
        due.file("a", 1);
        due.line("a", 2, 3);
        due.line("b", 2, 3);
        Due.same("accept() with faults", due.rows.accept(), -12);
        due.faults("accept", 3, 0, 2, 1);
        Due.same("accept(): no version", due.rows.files(0), NONE);
        Due.same("accept(): what came is still there", due.rows.drop(), 3);
    }

    private static void acceptTellsFaultsAnew() {
        Due due = new Due();
        due.file("a", 1);
        due.rows.check();
        due.line("a", 1, Due.sumOf(1));
        Due.same("accept() mended", due.rows.accept(), 0);
        due.faults("accept without faults");
        Due.same("accept(): nothing is there to come", due.rows.drop(), 0);
        Due.same("accept(): the next file is the first", due.file("a"), 1);
        Due.same("accept(): the next line is the first", due.line("b", 0, 1), 1);
        Due.same("accept() with faults behind a version", due.rows.accept(), -12);
        Due.same("files(1)", due.rows.files(1), NONE);
    }

    private static void acceptStateBehindFaults() {
        Due due = new Due();
        for (int v = 0; v < 12; v++) {
            Due.same("accept() number " + v, due.rows.accept(), v);
        }
        Due.same("accept() number 12", due.rows.accept(), PackageRows2.STATE);
        Due.same("files(12)", due.rows.files(12), NONE);
        due.file("a");
        Due.same("accept() of faults with 12 versions", due.rows.accept(), -11);
        due.faults("with 12 versions", 6, 0);
        due.line("a", 0, 1);
        Due.same("accept() without faults with 12 versions", due.rows.accept(), PackageRows2.STATE);
        due.faults("behind STATE");
        Due.same("drop() behind STATE", due.rows.drop(), 2);
        for (int i = 0; i < 9; i++) {
            due.both("a" + i);
        }
        Due.same("accept() of 9 files with 12 versions", due.rows.accept(), PackageRows2.STATE);
    }

    private static void acceptFullBehindState() {
        for (int count = 9; count <= 12; count++) {
            Due due = new Due();
            for (int i = 0; i < count; i++) {
                due.both("a" + i, i);
            }
            Due.same("accept() of " + count + " files", due.rows.accept(), PackageRows2.FULL);
            due.faults("behind FULL");
            Due.same("files(0) behind FULL", due.rows.files(0), NONE);
            due.file("a0");
            Due.same("accept() of faults and too many", due.rows.accept(), count < 12 ? -11 : PackageRows2.FULL);
            Due.same("drop() behind FULL", due.rows.drop(), Math.min(12, count + 1) + count);
            Due.same("accept() behind drop()", due.rows.accept(), 0);
        }
    }

    private static void acceptEight() {
        Due due = new Due();
        for (int i = 0; i < 8; i++) {
            due.both("a" + i, i);
        }
        Due.same("accept() of 8 files", due.rows.accept(), 0);
        Due.same("files(0) of 8", due.rows.files(0), 8);
    }

    private static void drops() {
        Due due = new Due();
        due.file("a");
        due.file("b");
        due.line("a", 0, 1);
        due.path("c").bytes(4);
        Due.same("drop()", due.rows.drop(), 3);
        Due.same("drop() again", due.rows.drop(), 0);
        Due.same("drop(): the bytes that are collected stay", due.rows.sum(), Due.sumOf(4));
        Due.same("drop(): the path that is collected stays", due.rows.file(), 1);
        Due.same("drop(): line()", due.line("c", 1, Due.sumOf(4)), 1);
        Due.same("drop(): accept()", due.rows.accept(), 0);
        due.file("d");
        Due.same("drop() with a version", due.rows.drop(), 1);
        Due.same("drop(): versions stay", due.rows.files(0), 1);
    }
}
