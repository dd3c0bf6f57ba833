/** Promises 1 to 6: a new object, path, octet, file, line, sum. */
public final class CollectTest {
    private static final int[] EXTREMES = {Integer.MIN_VALUE, -1, 0, 1, 12, Integer.MAX_VALUE};

    public static void main(String[] args) {
        newObject();
        pathKeepsLowestBits();
        pathLosesBeyondThirty();
        octets();
        octetsBeyondForty();
        pathsThatCan();
        pathsThatCannot();
        everySign();
        fileCounts();
        fileClearsWhatIsCollected();
        lineSizes();
        lineCounts();
        lineTakesThePathAlone();
        rangeBeforeFull();
        sums();
        Due.end();
    }

    private static void newObject() {
        Due due = new Due();
        Due.same("new: sum()", due.rows.sum(), 1);
        Due.same("new: check()", due.rows.check(), 0);
        Due.same("new: drop()", due.rows.drop(), 0);
        Due.same("new: missing()", due.rows.missing(), PackageRows2.NONE);
        Due.same("new: file()", due.rows.file(), PackageRows2.RANGE);
        Due.same("new: line(0, 1)", due.rows.line(0, 1), PackageRows2.RANGE);
        for (int n : EXTREMES) {
            Due.same("new: files(" + n + ")", due.rows.files(n), PackageRows2.NONE);
            Due.same("new: about", due.rows.about(n, 0, 0), PackageRows2.NONE);
            Due.same("new: sign", due.rows.sign(n, 0, 0), PackageRows2.NONE);
            Due.same("new: at", due.at(n, 0, 0), PackageRows2.NONE);
            Due.same("new: find", due.rows.find(n), PackageRows2.NONE);
            Due.same("new: same", due.rows.same(n, n), PackageRows2.NONE);
            Due.same("new: split", due.rows.split(n, 1), PackageRows2.NONE);
            Due.same("new: piece", due.rows.piece(n, true), PackageRows2.RANGE);
            Due.same("new: joined", due.rows.joined(n), PackageRows2.STATE);
            Due.same("new: fault", due.fault(n, 0), Due.NO_SUCH_ELEMENT);
        }
        new Due().both("other");
        Due.same("new: an object beside it", due.rows.drop(), 0);
    }

    private static void pathKeepsLowestBits() {
        Due due = new Due();
        due.rows.path('a' + 256);
        due.rows.path('b' - 256);
        due.rows.path('c' | 0x7fffff00);
        due.rows.path('d' | 0x80000000);
        Due.same("path: file() of wide signs", due.rows.file(), 1);
        due.line("abcd", 0, 1);
        Due.same("path: accept()", due.rows.accept(), 0);
        Due.same("path: sign 0", due.rows.sign(0, 0, 0), 'a');
        Due.same("path: sign 1", due.rows.sign(0, 0, 1), 'b');
        Due.same("path: sign 2", due.rows.sign(0, 0, 2), 'c');
        Due.same("path: sign 3", due.rows.sign(0, 0, 3), 'd');
    }

    private static void pathLosesBeyondThirty() {
        Due.same("path: 24 signs", new Due().file("a".repeat(24)), 1);
        for (int length = 25; length <= 70; length++) {
            Due due = new Due();
            String tooLong = "a".repeat(length);
            Due.same("path: " + length + " signs", due.file(tooLong), PackageRows2.RANGE);
            Due.same("path: line of " + length + " signs", due.line(tooLong, 0, 1), PackageRows2.RANGE);
            Due.same("path: a path behind one that was too long", due.file("b"), 1);
        }
    }

    private static void octets() {
        Due due = new Due();
        due.bytes(256 + 7, -1, 0x7fffff80, Integer.MIN_VALUE);
        Due.same("octet: sum of wide bytes", due.rows.sum(), Due.sumOf(7, 255, 128, 0));
        due.path("a").rows.file();
        due.line("a", 4, Due.sumOf(7, 255, 128, 0));
        Due.same("octet: accept()", due.rows.accept(), 0);
        Due.same("octet: byte 0", due.at(0, 0, 0), 7);
        Due.same("octet: byte 1", due.at(0, 0, 1), 255);
        Due.same("octet: byte 2", due.at(0, 0, 2), 128);
        Due.same("octet: byte 3", due.at(0, 0, 3), 0);
    }

    private static void octetsBeyondForty() {
        Due due = new Due();
        due.bytes(Due.repeat(39, 3));
        Due.same("octet: sum of 39", due.rows.sum(), Due.sumOf(Due.repeat(39, 3)));
        due.bytes(3);
        Due.same("octet: sum of 40", due.rows.sum(), Due.sumOf(Due.repeat(40, 3)));
        due.bytes(9, 9, 9);
        Due.same("octet: sum beyond 40", due.rows.sum(), Due.sumOf(Due.repeat(40, 3)));
        due.path("a").rows.file();
        Due.same("octet: line of 40", due.line("a", 40, Due.sumOf(Due.repeat(40, 3))), 1);
        Due.same("octet: accept() of 40", due.rows.accept(), 0);
        Due.same("octet: about(0, 0, 0)", due.rows.about(0, 0, 0), 40);
    }

    private static void pathsThatCan() {
        String[] paths = {
            "a", "0", "z9", "a/b", "a/b/c/d", "...", "a/...", ".../a", ".a", "a.", "..a", "a..", ".a.",
            "a..b", "a/.b/c", "a/..b", "a/b..", "x/.../y", "a/b/c/d/e/f/g/h/i/j/k/ll", "....",
            "........................", "aaaaaaaaaaaaaaaaaaaaaaaa"
        };
        for (String path : paths) {
            Due due = new Due();
            Due.same("file() of " + path, due.file(path), 1);
            Due.same("line() of " + path, due.line(path, 0, 1), 1);
            Due.same("accept() of " + path, due.rows.accept(), 0);
            Due.same("find(0) of " + path, due.find(0, path), 0);
        }
    }

    private static void pathsThatCannot() {
        String[] paths = {
            "", "/", "//", "/a", "a/", "a//b", "//a", "a//", ".", "..", "./a", "../a", "a/.", "a/..",
            "a/./b", "a/../b", "A", "aB", "a b", "a-b", "a_b", "a\\b", "a\0b", "\u00e9", "./", "/.", "../..",
            "aaaaaaaaaaaaaaaaaaaaaaaaa", "aaaaaaaaaaaaaaaaaaaaaaa/a", "aaaaaaaaaaaaaaaaaaaaaaaa/",
            "aaaaaaaaaaaaaaaaaaaaaaaaaaaaaa"
        };
        for (String path : paths) {
            Due due = new Due();
            Due.same("file() of " + path, due.file(path), PackageRows2.RANGE);
            Due.same("line() of " + path, due.line(path, 0, 1), PackageRows2.RANGE);
            Due.same("drop() behind " + path, due.rows.drop(), 0);
        }
    }

    private static void everySign() {
        for (int c = 0; c < 256; c++) {
            boolean fits = "abcdefghijklmnopqrstuvwxyz0123456789./".indexOf(c) >= 0;
            Due due = new Due();
            due.path("a").rows.path(c);
            Due.same("file() with sign " + c, due.path("b").rows.file(), fits ? 1 : PackageRows2.RANGE);
        }
    }

    private static void fileCounts() {
        Due due = new Due();
        for (int i = 1; i <= 12; i++) {
            Due.same("file() number " + i, due.file("same", i), i);
        }
        Due.same("file() number 13", due.file("same", 13), PackageRows2.FULL);
        Due.same("file(): collected behind FULL", due.rows.sum(), 1);
        Due.same("file(): path behind FULL", due.rows.line(0, 1), PackageRows2.RANGE);
        Due.same("line() beside 12 files", due.line("a", 0, 1), 1);
        Due.same("drop() of 12 files and a line", due.rows.drop(), 13);
        Due.same("file() behind drop()", due.file("a"), 1);
    }

    private static void fileClearsWhatIsCollected() {
        Due due = new Due();
        due.file("a", 1, 2);
        Due.same("file(): bytes are gone", due.rows.sum(), 1);
        Due.same("file(): path is gone", due.rows.file(), PackageRows2.RANGE);
        due.file("A", 1, 2);
        Due.same("file(): bytes are gone behind RANGE", due.rows.sum(), 1);
        Due.same("file(): path is gone behind RANGE", due.file("b"), 2);
        due.line("a", 2, Due.sumOf(1, 2));
        due.line("b", 0, 1);
        Due.same("file(): what it collected before stays its own", due.rows.accept(), 0);
    }

    private static void lineSizes() {
        int[] wrong = {Integer.MIN_VALUE, -41, -1, 41, 42, 256, Integer.MAX_VALUE};
        for (int size : wrong) {
            Due due = new Due();
            Due.same("line(" + size + ", 1)", due.line("a", size, 1), PackageRows2.RANGE);
            Due.same("line(0, 1): the path is gone", due.rows.line(0, 1), PackageRows2.RANGE);
        }
        for (int size = 0; size <= 40; size++) {
            Due.same("line(" + size + ", 1)", new Due().line("a", size, 1), 1);
        }
        for (int sum : EXTREMES) {
            Due.same("line(0, " + sum + ")", new Due().line("a", 0, sum), 1);
        }
    }

    private static void lineCounts() {
        Due due = new Due();
        for (int i = 1; i <= 12; i++) {
            Due.same("line() number " + i, due.line("same", i, i), i);
        }
        Due.same("line() number 13", due.line("same", 0, 1), PackageRows2.FULL);
        Due.same("line(): the path is gone behind FULL", due.rows.file(), PackageRows2.RANGE);
        Due.same("file() beside 12 lines", due.file("a"), 1);
        Due.same("drop() of 12 lines and a file", due.rows.drop(), 13);
        Due.same("line() behind drop()", due.line("a", 0, 1), 1);
    }

    private static void lineTakesThePathAlone() {
        Due due = new Due();
        due.bytes(5, 6);
        due.line("a", 2, Due.sumOf(5, 6));
        Due.same("line(): bytes stay", due.rows.sum(), Due.sumOf(5, 6));
        due.line("a", 99, 0);
        Due.same("line(): bytes stay behind RANGE", due.rows.sum(), Due.sumOf(5, 6));
        Due.same("line(): file() with the bytes that stayed", due.file("a"), 1);
        Due.same("line(): accept()", due.rows.accept(), 0);
    }

    private static void rangeBeforeFull() {
        Due due = new Due();
        for (int i = 0; i < 12; i++) {
            due.both("a" + i);
        }
        Due.same("file() of no path with 12", due.file("/"), PackageRows2.RANGE);
        Due.same("line() of no path with 12", due.line("/", 0, 1), PackageRows2.RANGE);
        Due.same("line() of no size with 12", due.line("a", 41, 1), PackageRows2.RANGE);
        Due.same("check() behind those", due.rows.check(), 0);
    }

    private static void sums() {
        Due due = new Due();
        Due.same("sum() of nothing", due.rows.sum(), 1);
        due.bytes(0);
        Due.same("sum() of 0", due.rows.sum(), 65599);
        due.bytes(1);
        Due.same("sum() of 0, 1", due.rows.sum(), 8261506);
        Due.same("sum() again", due.rows.sum(), 8261506);
        due.bytes(255);
        Due.same("sum() of 0, 1, 255", due.rows.sum(), (int) (8261506L * 65599 + 255));
        due.path("a");
        Due.same("sum() beside a path", due.rows.sum(), Due.sumOf(0, 1, 255));
        due.rows.check();
        due.rows.drop();
        due.rows.accept();
        Due.same("sum() behind check, drop, accept", due.rows.sum(), Due.sumOf(0, 1, 255));
    }
}
