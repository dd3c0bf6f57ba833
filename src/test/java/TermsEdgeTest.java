/**
 * Of the section "Terms": SUM, PATH, PACKAGE and WHAT COMES:
 * each sentence that names a boundary case by a test of its own.
 */
public final class TermsEdgeTest {
    private static final int NONE = PackageRows2.NONE;
    private static final int RANGE = PackageRows2.RANGE;
    private static final int STATE = PackageRows2.STATE;
    private static final int FULL = PackageRows2.FULL;

    public static void main(String[] args) {
        sum();
        path();
        packages();
        whatComes();
        Due.end();
    }

    private static void sum() {
        sumOfNoBytes();
        sumOfTheLeastAndTheMostByte();
        sumWrapsAround();
        sumsAtTheEndsOfTheirRange();
    }

    private static void sumOfNoBytes() {
        Due.words("SUM", "is 1 at first");
        Due due = new Due();
        Due.same("sum()", due.rows.sum(), 1);
        due.file("a");
        due.line("a", 0, 0);
        Due.same("check() with 0", due.rows.check(), 1);
        due.faults("with 0", 4, 0);
        due.rows.drop();
        due.file("a");
        due.line("a", 0, 1);
        Due.same("accept() with 1", due.rows.accept(), 0);
        Due.same("about(0, 0, 1)", due.rows.about(0, 0, 1), 1);
    }

    private static void sumOfTheLeastAndTheMostByte() {
        Due.words("SUM", "for each byte 65599 times itself and the byte");
        Due.same("sum() of 0", new Due().bytes(0).rows.sum(), 65599);
        Due.same("sum() of 0, 0", new Due().bytes(0, 0).rows.sum(), 8261505);
        Due.same("sum() of 255", new Due().bytes(255).rows.sum(), 65854);
        Due.same("sum() of 1, 2", new Due().bytes(1, 2).rows.sum(), 8327106);
    }

    private static void sumWrapsAround() {
        Due.words("SUM", "of 32 bits");
        Due.same("sum() of 255, 255", new Due().bytes(255, 255).rows.sum(), 24989505);
        Due.same("sum() of 0, 0, 0", new Due().bytes(0, 0, 0).rows.sum(), 780587199);
        Due.same("sum() of twin one", new Due().bytes(Due.TWIN_ONE).rows.sum(), Due.TWIN_SUM);
        Due.same("sum() of twin two", new Due().bytes(Due.TWIN_TWO).rows.sum(), Due.TWIN_SUM);
        Due.same("sum() of 40 times 255", new Due().bytes(Due.repeat(40, 255)).rows.sum(), -1447464703);
        Due.same("sum() of 40 times 0", new Due().bytes(Due.repeat(40, 0)).rows.sum(), 1772664321);
    }

    /** Sums that look like NONE, RANGE or nothing are sums all the same. */
    private static void sumsAtTheEndsOfTheirRange() {
        Due.words("SUM", "of 32 bits (every number of 32 bits may be one)");
        int[][] bytes = {
            {177, 24, 52, 6, 166, 44}, {24, 198, 45, 192, 156, 25}, {48, 103, 30, 116, 125, 173},
            {182, 98, 202, 96, 37, 34}, {165, 87, 232, 64, 53, 41}
        };
        int[] sums = {0, -1, -2, Integer.MIN_VALUE, Integer.MAX_VALUE};
        for (int i = 0; i < sums.length; i++) {
            Due due = new Due();
            Due.same("sum()", due.bytes(bytes[i]).rows.sum(), sums[i]);
            due.path("a").rows.file();
            Due.same("line(6, " + sums[i] + ")", due.line("a", 6, sums[i]), 1);
            Due.same("accept() of " + sums[i], due.rows.accept(), 0);
            Due.same("about(0, 0, 1)", due.rows.about(0, 0, 1), sums[i]);
        }
    }

    private static void path() {
        pathOfNoSigns();
        pathOfOneSign();
        pathOfTheMostSigns();
        pathOfTooManySigns();
        signsBesideTheLetters();
        signsBesideTheDigits();
        signsBesidePointAndSlash();
        slashesTogether();
        slashFirst();
        slashLast();
        pointAlone();
        twoPointsAlone();
        pointsNotAlone();
    }

    /** A path is looked at by file() and by line() alike. */
    private static void allowed(boolean due, String path) {
        Due.same("file() of '" + path + "'", new Due().file(path), due ? 1 : RANGE);
        Due.same("line() of '" + path + "'", new Due().line(path, 0, 1), due ? 1 : RANGE);
    }

    private static void pathOfNoSigns() {
        Due.words("PATH", "1 to 24 signs: none");
        allowed(false, "");
        Due due = new Due();
        Due.same("file() of bytes alone", due.bytes(1, 2).rows.file(), RANGE);
        Due.same("drop()", due.rows.drop(), 0);
    }

    private static void pathOfOneSign() {
        Due.words("PATH", "1 to 24 signs: one");
        allowed(true, "a");
        allowed(true, "z");
        allowed(true, "0");
        allowed(true, "9");
    }

    private static void pathOfTheMostSigns() {
        Due.words("PATH", "1 to 24 signs: 24");
        allowed(true, "a".repeat(23));
        allowed(true, "a".repeat(24));
        allowed(true, "a/".repeat(11) + "bc");
        Due due = new Due();
        due.both("a".repeat(24));
        due.rows.accept();
        Due.same("about(0, 0, 2)", due.rows.about(0, 0, 2), 24);
    }

    private static void pathOfTooManySigns() {
        Due.words("PATH", "1 to 24 signs: more");
        allowed(false, "a".repeat(25));
        allowed(false, "a/".repeat(12) + "b");
        for (int length = 26; length <= 33; length++) {
            allowed(false, "a".repeat(length));
        }
    }

    private static void signsBesideTheLetters() {
        Due.words("PATH", "small letters");
        allowed(false, "`");
        allowed(true, "abcdefghijklm");
        allowed(true, "nopqrstuvwxyz");
        allowed(false, "{");
        allowed(false, "A");
        allowed(false, "bZb");
        allowed(false, "\u00e1");
    }

    private static void signsBesideTheDigits() {
        Due.words("PATH", "digits");
        allowed(true, "0123456789");
        allowed(false, "0:");
        allowed(false, ":");
        allowed(false, ";9");
    }

    private static void signsBesidePointAndSlash() {
        Due.words("PATH", "points and /");
        allowed(true, "a.b/c");
        allowed(false, "a-b");
        allowed(false, "a,b");
        allowed(false, "a\\b");
        allowed(false, "a b");
        allowed(false, "a\0");
        allowed(false, "\u00ffa");
    }

    private static void slashesTogether() {
        Due.words("PATH", "no two / together");
        allowed(true, "a/b");
        allowed(false, "a//b");
        allowed(false, "a///b");
        allowed(false, "a/b//c");
    }

    private static void slashFirst() {
        Due.words("PATH", "not / first");
        allowed(false, "/a");
        allowed(false, "/");
        allowed(false, "//a");
    }

    private static void slashLast() {
        Due.words("PATH", "not / .. last");
        allowed(false, "a/");
        allowed(false, "a/b/");
        allowed(false, "a//");
        allowed(false, "a".repeat(23) + "/");
    }

    private static void pointAlone() {
        Due.words("PATH", "no part between / is . alone");
        allowed(false, "a/./b");
        allowed(false, "./a");
        allowed(false, "a/.");
        allowed(false, ".");
        allowed(false, "a".repeat(22) + "/.");
    }

    private static void twoPointsAlone() {
        Due.words("PATH", "no part between / is .. alone");
        allowed(false, "a/../b");
        allowed(false, "../a");
        allowed(false, "a/..");
        allowed(false, "..");
        allowed(false, "a".repeat(21) + "/..");
    }

    private static void pointsNotAlone() {
        Due.words("PATH", "alone");
        String[] parts = {"...", ".a", "a.", "..a", "a..", ".a.", "a.b", "a..b", ".0", "0."};
        for (String part : parts) {
            allowed(true, part);
            allowed(true, "x/" + part);
            allowed(true, part + "/x");
            allowed(true, "x/" + part + "/x");
        }
        allowed(true, ".".repeat(24));
    }

    private static void packages() {
        versionsFromZeroOn();
        theTwelfthVersion();
        noThirteenthVersion();
        eightFiles();
        nineFiles();
        aBeginningFirst();
        signBySign();
    }

    private static void versionsFromZeroOn() {
        Due.words("PACKAGE", "VERSIONS 0, 1, ..");
        Due due = new Due();
        Due.same("accept() the first", due.rows.accept(), 0);
        Due.same("files(0)", due.rows.files(0), 0);
        Due.same("files(1)", due.rows.files(1), NONE);
        Due.same("accept() the second", due.rows.accept(), 1);
        Due.same("files(1)", due.rows.files(1), 0);
        Due.same("files(2)", due.rows.files(2), NONE);
    }

    private static void theTwelfthVersion() {
        Due.words("PACKAGE", "at most 12: the twelfth");
        Due due = Due.withVersions(11);
        due.both("a", 7);
        Due.same("accept()", due.rows.accept(), 11);
        Due.same("files(11)", due.rows.files(11), 1);
        Due.same("at(11, 0, 0)", due.at(11, 0, 0), 7);
        Due.same("same(10, 11)", due.rows.same(10, 11), 0);
        Due.same("split(11, 1)", due.rows.split(11, 1), 1);
    }

    private static void noThirteenthVersion() {
        Due.words("PACKAGE", "at most 12: one more");
        Due due = Due.withVersions(12);
        due.both("a", 7);
        Due.same("accept()", due.rows.accept(), STATE);
        Due.same("files(11)", due.rows.files(11), 0);
        Due.same("files(12)", due.rows.files(12), NONE);
        Due.same("accept() again", due.rows.accept(), STATE);
    }

    private static void eightFiles() {
        Due.words("PACKAGE", "FILES .. at most 8: eight");
        Due due = Due.withFiles(8);
        Due.same("accept()", due.rows.accept(), 0);
        Due.same("files(0)", due.rows.files(0), 8);
        Due.same("at(0, 7, 0)", due.at(0, 7, 0), 7);
    }

    private static void nineFiles() {
        Due.words("PACKAGE", "FILES .. at most 8: nine");
        Due due = Due.withFiles(9);
        Due.same("accept()", due.rows.accept(), FULL);
        Due.same("files(0)", due.rows.files(0), NONE);
    }

    private static void standsInOrder(String... sorted) {
        for (int turn = 0; turn < 2; turn++) {
            Due due = new Due();
            for (int i = 0; i < sorted.length; i++) {
                due.both(sorted[turn == 0 ? i : sorted.length - 1 - i]);
            }
            due.rows.accept();
            for (int i = 0; i < sorted.length; i++) {
                Due.same("find(0) of " + sorted[i], due.find(0, sorted[i]), i);
            }
        }
    }

    private static void aBeginningFirst() {
        Due.words("PACKAGE", "a beginning first");
        standsInOrder("a", "aa", "aaa", "aaaa");
        standsInOrder("a", "a.", "a.b", "a.b/c");
        standsInOrder("a".repeat(23), "a".repeat(24));
    }

    private static void signBySign() {
        Due.words("PACKAGE", "compared sign by sign");
        standsInOrder(".a", "0", "9", "a", "z");
        standsInOrder("aa.", "aa/b", "aa0", "aaa");
        standsInOrder("a/z", "aa");
        standsInOrder("10", "9");
        standsInOrder("aaaaaaaaaaaaaaaaaaaaaaa0", "aaaaaaaaaaaaaaaaaaaaaaaz", "b");
    }

    private static void whatComes() {
        fortyBytes();
        twelveFiles();
        twelveLines();
        filesInTheOrderTold();
        linesInTheOrderTold();
    }

    private static void fortyBytes() {
        Due.words("WHAT COMES", "bytes, at most 40");
        for (int count = 39; count <= 42; count++) {
            int kept = Math.min(40, count);
            Due due = new Due();
            due.file("a", Due.repeat(count, 5));
            due.line("a", kept, Due.sumOf(Due.repeat(kept, 5)));
            Due.same("accept() of " + count + " bytes", due.rows.accept(), 0);
            Due.same("about(0, 0, 0)", due.rows.about(0, 0, 0), kept);
            Due.same("at(0, 0, " + (kept - 1) + ")", due.at(0, 0, kept - 1), 5);
            Due.same("at(0, 0, " + kept + ")", due.at(0, 0, kept), Due.OUT_OF_BOUNDS);
        }
    }

    private static void twelveFiles() {
        Due.words("WHAT COMES", "files .. at most 12");
        Due due = new Due();
        for (int i = 1; i <= 12; i++) {
            Due.same("file() number " + i, due.file("a"), i);
        }
        Due.same("file() number 13", due.file("a"), FULL);
        Due.same("file() number 13 again", due.file("b"), FULL);
        Due.same("check()", due.rows.check(), 12);
        Due.same("line() beside them", due.line("a", 0, 1), 1);
    }

    private static void twelveLines() {
        Due.words("WHAT COMES", "lines .. at most 12");
        Due due = new Due();
        for (int i = 1; i <= 12; i++) {
            Due.same("line() number " + i, due.line("a", 0, 1), i);
        }
        Due.same("line() number 13", due.line("a", 0, 1), FULL);
        Due.same("line() number 13 again", due.line("b", 0, 1), FULL);
        Due.same("check()", due.rows.check(), 12);
        Due.same("file() beside them", due.file("a"), 1);
    }

    private static void filesInTheOrderTold() {
        Due.words("WHAT COMES", "files .. in the order in which they are told");
        Due due = new Due();
        due.file("c", 1);
        due.file("a");
        due.file("b");
        due.line("a", 0, 1);
        due.line("b", 0, 1);
        due.rows.check();
        due.faults("c", 6, 0);
        due.file("c", 2);
        due.line("c", 1, Due.sumOf(1));
        due.rows.check();
        due.faults("c twice", 5, 3);
    }

    private static void linesInTheOrderTold() {
        Due.words("WHAT COMES", "lines .. in the order in which they are told");
        Due due = new Due();
        due.line("c", 0, 1);
        due.line("a", 0, 1);
        due.line("b", 0, 1);
        due.rows.check();
        due.faults("all", 2, 0, 2, 1, 2, 2);
        due.file("b");
        due.file("c");
        due.rows.check();
        due.faults("a", 2, 1);
    }
}
