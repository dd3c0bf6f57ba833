/** The sections "Promise 11" to "Promise 16", each sentence that names a boundary case by a test of its own. */
public final class VersionEdgeTest {
    private static final int NONE = PackageRows2.NONE;
    private static final int LEAST = Integer.MIN_VALUE;
    private static final int MOST = Integer.MAX_VALUE;

    public static void main(String[] args) {
        files();
        about();
        sign();
        at();
        find();
        same();
        Due.end();
    }

    private static Due withTwoFiles() {
        Due due = new Due();
        due.both("b/c", 7, 8);
        due.both("a");
        due.rows.accept();
        return due;
    }

    private static void files() {
        filesOfNoVersion();
        filesOfAnEmptyVersion();
    }

    private static void filesOfNoVersion() {
        Due.words("promise 11", "NONE");
        Due due = withTwoFiles();
        Due.same("files(0)", due.rows.files(0), 2);
        int[] versions = {LEAST, -1, 1, 11, 12, MOST};
        for (int version : versions) {
            Due.same("files(" + version + ")", due.rows.files(version), NONE);
        }
        Due full = Due.withVersions(12);
        Due.same("files(11) of 12", full.rows.files(11), 0);
        Due.same("files(12) of 12", full.rows.files(12), NONE);
        Due.same("files(-1) of 12", full.rows.files(-1), NONE);
    }

    private static void filesOfAnEmptyVersion() {
        Due.words("promise 11", "How many files a version has: none, the most");
        Due due = new Due();
        due.rows.accept();
        Due.same("files(0)", due.rows.files(0), 0);
        for (int i = 0; i < 8; i++) {
            due.both("f" + i);
        }
        due.rows.accept();
        Due.same("files(1)", due.rows.files(1), 8);
        Due.same("files(0) behind it", due.rows.files(0), 0);
    }

    private static void about() {
        aboutNoVersion();
        aboutNoFile();
        aboutNoFileBehindTheEighth();
        aboutAnotherWhat();
        aboutTheLeast();
        aboutTheMost();
        aboutTheFirstVersion();
    }

    private static void aboutNoVersion() {
        Due.words("promise 12", "NONE: no such version");
        Due due = withTwoFiles();
        int[] versions = {LEAST, -1, 1, 12, MOST};
        for (int version : versions) {
            for (int what = 0; what < 4; what++) {
                Due.same("about(" + version + ", 0, " + what + ")", due.rows.about(version, 0, what), NONE);
            }
        }
        Due.same("about(12, 0, 0) of 12", Due.withVersions(12).rows.about(12, 0, 0), NONE);
    }

    private static void aboutNoFile() {
        Due.words("promise 12", "NONE: no such file");
        Due due = withTwoFiles();
        int[] places = {LEAST, -1, 2, 7, 8, MOST};
        for (int i : places) {
            for (int what = 0; what < 4; what++) {
                Due.same("about(0, " + i + ", " + what + ")", due.rows.about(0, i, what), NONE);
            }
        }
    }

    private static Due withEightFiles() {
        Due due = Due.withFiles(8);
        due.rows.accept();
        return due;
    }

    private static void aboutNoFileBehindTheEighth() {
        Due.words("promise 12", "NONE: no such file, of the most files");
        Due due = withEightFiles();
        for (int what = 0; what < 4; what++) {
            Due.same("about(0, 8, " + what + ")", due.rows.about(0, 8, what), NONE);
            Due.same("about(0, -1, " + what + ")", due.rows.about(0, -1, what), NONE);
        }
        Due.same("about(0, 7, 0)", due.rows.about(0, 7, 0), 1);
    }

    private static void aboutAnotherWhat() {
        Due.words("promise 12", "NONE: another what");
        Due due = withTwoFiles();
        int[] whats = {LEAST, -1, 4, 5, MOST};
        for (int what : whats) {
            Due.same("about(0, 1, " + what + ")", due.rows.about(0, 1, what), NONE);
        }
    }

    private static void aboutTheLeast() {
        Due.words("promise 12", "what 0 .. 1 .. 2: the least");
        Due due = withTwoFiles();
        Due.same("about(0, 0, 0)", due.rows.about(0, 0, 0), 0);
        Due.same("about(0, 0, 1)", due.rows.about(0, 0, 1), 1);
        Due.same("about(0, 0, 2)", due.rows.about(0, 0, 2), 1);
        Due.same("about(0, 0, 3)", due.rows.about(0, 0, 3), 0);
    }

    private static void aboutTheMost() {
        Due.words("promise 12", "what 0 .. 1 .. 2: the most");
        Due due = new Due();
        due.both("x".repeat(24), Due.repeat(40, 255));
        due.rows.accept();
        Due.same("about(0, 0, 0)", due.rows.about(0, 0, 0), 40);
        Due.same("about(0, 0, 1)", due.rows.about(0, 0, 1), -1447464703);
        Due.same("about(0, 0, 2)", due.rows.about(0, 0, 2), 24);
        Due.same("about(0, 0, 3)", due.rows.about(0, 0, 3), 0);
    }

    private static void aboutTheFirstVersion() {
        Due.words("promise 12", "3: the first version that shares it");
        Due due = withTwelveVersionsOf("a", 5);
        Due.same("about(0, 0, 3)", due.rows.about(0, 0, 3), 0);
        Due.same("about(11, 0, 3)", due.rows.about(11, 0, 3), 0);
        Due other = new Due();
        for (int v = 0; v < 12; v++) {
            other.both("a", v);
            other.rows.accept();
        }
        Due.same("about(11, 0, 3) of its own", other.rows.about(11, 0, 3), 11);
        Due.same("about(0, 0, 3) as before", other.rows.about(0, 0, 3), 0);
    }

    private static Due withTwelveVersionsOf(String path, int b) {
        Due due = new Due();
        for (int v = 0; v < 12; v++) {
            due.both(path, b);
            due.rows.accept();
        }
        return due;
    }

    private static void sign() {
        signsThatAre();
        signsThatAreNot();
        signOfNoFile();
    }

    private static void signsThatAre() {
        Due.words("promise 13", "Sign k of that file's path");
        Due due = withTwoFiles();
        Due.same("sign(0, 0, 0)", due.rows.sign(0, 0, 0), 'a');
        Due.same("sign(0, 1, 0)", due.rows.sign(0, 1, 0), 'b');
        Due.same("sign(0, 1, 1)", due.rows.sign(0, 1, 1), '/');
        Due.same("sign(0, 1, 2)", due.rows.sign(0, 1, 2), 'c');
        Due longest = new Due();
        longest.both("abcdefghijklmnopqrstuvw0");
        longest.rows.accept();
        Due.same("sign(0, 0, 23)", longest.rows.sign(0, 0, 23), '0');
        Due.same("sign(0, 0, 24)", longest.rows.sign(0, 0, 24), NONE);
    }

    private static void signsThatAreNot() {
        Due.words("promise 13", "NONE: no such sign");
        Due due = withTwoFiles();
        int[] places = {LEAST, -1, 3, 23, 24, 30, MOST};
        for (int k : places) {
            Due.same("sign(0, 1, " + k + ")", due.rows.sign(0, 1, k), NONE);
        }
        Due.same("sign(0, 0, 1)", due.rows.sign(0, 0, 1), NONE);
    }

    private static void signOfNoFile() {
        Due.words("promise 13", "NONE: no such file or version");
        Due due = withTwoFiles();
        int[] places = {LEAST, -1, 2, 8, MOST};
        for (int place : places) {
            Due.same("sign(0, " + place + ", 0)", due.rows.sign(0, place, 0), NONE);
            Due.same("sign(" + place + ", 0, 0)", due.rows.sign(place, 0, 0), NONE);
        }
        Due.same("sign(1, 0, 0)", due.rows.sign(1, 0, 0), NONE);
        Due.same("sign(0, 7, 0) of 8", withEightFiles().rows.sign(0, 7, 0), 'f');
        Due.same("sign(0, 8, 0) of 8", withEightFiles().rows.sign(0, 8, 0), NONE);
    }

    private static void at() {
        bytesAtTheirEnds();
        noSuchByte();
        noSuchByteInAnEmptyFile();
        noSuchFile();
    }

    private static void bytesAtTheirEnds() {
        Due.words("promise 14", "Byte k of that file, 0 .. 255");
        Due due = new Due();
        due.both("a", 0, 127, 128, 255);
        due.rows.accept();
        Due.same("at(0, 0, 0)", due.at(0, 0, 0), 0);
        Due.same("at(0, 0, 1)", due.at(0, 0, 1), 127);
        Due.same("at(0, 0, 2)", due.at(0, 0, 2), 128);
        Due.same("at(0, 0, 3)", due.at(0, 0, 3), 255);
    }

    private static void noSuchByte() {
        Due.words("promise 14", "ArrayIndexOutOfBoundsException if there is no such byte");
        Due due = withTwoFiles();
        int[] places = {LEAST, -1, 2, 3, 39, 40, 41, MOST};
        for (int k : places) {
            Due.same("at(0, 1, " + k + ")", due.at(0, 1, k), Due.OUT_OF_BOUNDS);
        }
        Due.same("at(0, 1, 1)", due.at(0, 1, 1), 8);
        Due full = new Due();
        full.both("a", Due.repeat(40, 1));
        full.rows.accept();
        Due.same("at(0, 0, 39) of 40", full.at(0, 0, 39), 1);
        Due.same("at(0, 0, 40) of 40", full.at(0, 0, 40), Due.OUT_OF_BOUNDS);
    }

    private static void noSuchByteInAnEmptyFile() {
        Due.words("promise 14", "ArrayIndexOutOfBoundsException if there is no such byte: an empty file");
        Due due = withTwoFiles();
        Due.same("at(0, 0, 0)", due.at(0, 0, 0), Due.OUT_OF_BOUNDS);
        Due.same("at(0, 0, -1)", due.at(0, 0, -1), Due.OUT_OF_BOUNDS);
    }

    private static void noSuchFile() {
        Due.words("promise 14", "NONE if there is no such file");
        Due due = withTwoFiles();
        int[] places = {LEAST, -1, 2, 7, 8, MOST};
        for (int i : places) {
            Due.same("at(0, " + i + ", 0)", due.at(0, i, 0), NONE);
            Due.same("at(0, " + i + ", -1)", due.at(0, i, -1), NONE);
            Due.same("at(0, " + i + ", 40)", due.at(0, i, 40), NONE);
            Due.same("at(" + i + ", 0, 0)", due.at(i, 0, 0), NONE);
        }
        Due.same("at(1, 0, 0)", due.at(1, 0, 0), NONE);
        Due.same("at(0, 7, 0) of 8", withEightFiles().at(0, 7, 0), 7);
        Due.same("at(0, 8, 0) of 8", withEightFiles().at(0, 8, 0), NONE);
        Due.same("at(12, 0, 0) of 12", Due.withVersions(12).at(12, 0, 0), NONE);
    }

    private static void find() {
        thePathStays();
        findOfNoVersion();
        findOfNoSuchFile();
        findOfNoPath();
        findAtTheEnds();
    }

    private static void thePathStays() {
        Due.words("promise 15", "(it stays)");
        Due due = withTwoFiles();
        due.path("b");
        Due.same("find(0) of b", due.rows.find(0), NONE);
        due.path("/c");
        Due.same("find(0) of b/c", due.rows.find(0), 1);
        Due.same("find(0) of b/c again", due.rows.find(0), 1);
        Due.same("find(9) of b/c", due.rows.find(9), NONE);
        Due.same("file() of b/c", due.rows.file(), 1);
        due.line("b/c", 0, 1);
        Due.same("accept()", due.rows.accept(), 1);
    }

    private static void findOfNoVersion() {
        Due.words("promise 15", "NONE: no such version");
        Due due = withTwoFiles();
        due.path("a");
        int[] versions = {LEAST, -1, 1, 11, 12, MOST};
        for (int version : versions) {
            Due.same("find(" + version + ")", due.rows.find(version), NONE);
        }
        Due.same("find(0)", due.rows.find(0), 0);
    }

    private static void findOfNoSuchFile() {
        Due.words("promise 15", "NONE: no such file");
        Due due = withTwoFiles();
        Due.same("find(0) of c", due.find(0, "c"), NONE);
        Due.same("find(0) of b/", due.find(0, "b/"), NONE);
        Due.same("find(0) of b/cd", due.find(0, "b/cd"), NONE);
        Due.same("find(0) of aa", due.find(0, "aa"), NONE);
        due.file("c");
        Due.same("find(0) of what only came", due.find(0, "c"), NONE);
    }

    private static void findOfNoPath() {
        Due.words("promise 15", "NONE: no sign, or none that could be a path");
        Due due = withTwoFiles();
        Due.same("find(0) of nothing", due.rows.find(0), NONE);
        Due.same("find(0) of /", due.find(0, "/"), NONE);
        Due.same("find(0) of A", due.find(0, "A"), NONE);
        Due.same("find(0) of 31 signs", due.find(0, "a".repeat(31)), NONE);
        Due empty = new Due();
        empty.rows.accept();
        Due.same("find(0) of nothing in an empty version", empty.rows.find(0), NONE);
    }

    private static void findAtTheEnds() {
        Due.words("promise 15", "from 0 on");
        Due due = new Due();
        for (int i = 7; i >= 0; i--) {
            due.both("f" + i);
        }
        due.rows.accept();
        Due.same("find(0) of the first", due.find(0, "f0"), 0);
        Due.same("find(0) of the last", due.find(0, "f7"), 7);
    }

    private static void same() {
        sameOfNoVersion();
        sameOfAVersionAndItself();
        sameOfFarVersions();
        sameOfNothing();
        sameOfTheSamePathAlone();
    }

    private static void sameOfNoVersion() {
        Due.words("promise 16", "NONE");
        Due due = withTwoFiles();
        int[] versions = {LEAST, -1, 1, 12, MOST};
        for (int version : versions) {
            Due.same("same(0, " + version + ")", due.rows.same(0, version), NONE);
            Due.same("same(" + version + ", 0)", due.rows.same(version, 0), NONE);
            Due.same("same(" + version + ", " + version + ")", due.rows.same(version, version), NONE);
        }
    }

    private static void sameOfAVersionAndItself() {
        Due.words("promise 16", "two versions: one and itself");
        Due.same("same(0, 0)", withTwoFiles().rows.same(0, 0), 2);
        Due due = new Due();
        for (int i = 0; i < 8; i++) {
            due.both("f" + i, i);
        }
        due.rows.accept();
        Due.same("same(0, 0) of 8", due.rows.same(0, 0), 8);
    }

    private static void sameOfFarVersions() {
        Due.words("promise 16", "or have alike bytes in the same path");
        Due due = new Due();
        due.both("a", 1);
        due.both("b");
        due.rows.accept();
        due.both("a", 2);
        due.rows.accept();
        due.both("a", 1);
        due.both("b");
        due.rows.accept();
        Due.same("about(2, 0, 3): not shared", due.rows.about(2, 0, 3), 2);
        Due.same("same(0, 2)", due.rows.same(0, 2), 2);
        Due.same("same(2, 0)", due.rows.same(2, 0), 2);
        Due.same("same(0, 1)", due.rows.same(0, 1), 0);
        Due chain = withTwelveVersionsOf("a", 5);
        Due.same("same(0, 11)", chain.rows.same(0, 11), 1);
    }

    private static void sameOfNothing() {
        Due.words("promise 16", "How many files: none");
        Due due = withTwoFiles();
        due.rows.accept();
        due.rows.accept();
        Due.same("same(0, 1)", due.rows.same(0, 1), 0);
        Due.same("same(1, 0)", due.rows.same(1, 0), 0);
        Due.same("same(1, 2)", due.rows.same(1, 2), 0);
    }

    private static void sameOfTheSamePathAlone() {
        Due.words("promise 16", "alike bytes in the same path: one of the two is not enough");
        Due due = new Due();
        due.both("a", 1);
        due.both("b", 2);
        due.rows.accept();
        due.both("a", 2);
        due.both("b", 2, 2);
        due.both("c", 1);
        due.rows.accept();
        Due.same("same(0, 1)", due.rows.same(0, 1), 0);
        Due.same("same(1, 0)", due.rows.same(1, 0), 0);
    }
}
