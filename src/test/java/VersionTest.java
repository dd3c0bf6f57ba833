/** Promises 9 and 11 to 16: versions, files, about, sign, at, find, same. */
public final class VersionTest {
    private static final int NONE = PackageRows2.NONE;
    private static final int[] BELOW = {Integer.MIN_VALUE, -2, -1};

    public static void main(String[] args) {
        order();
        behindTheLastOfEight();
        filesOfVersions();
        aboutAFile();
        sharing();
        sharingEndsWhereBytesChange();
        signs();
        bytes();
        finds();
        sames();
        versionsStayAsTheyAre();
        Due.end();
    }

    private static void order() {
        Due due = new Due();
        String[] sorted = {".b", "0", "9", "a", "a.b", "a/b", "a0", "ab"};
        int[] toldOrder = {5, 3, 7, 0, 6, 2, 4, 1};
        for (int place : toldOrder) {
            due.both(sorted[place], place);
        }
        Due.same("order: accept()", due.rows.accept(), 0);
        for (int i = 0; i < sorted.length; i++) {
            Due.same("order: at(0, " + i + ", 0)", due.at(0, i, 0), i);
            Due.same("order: about(0, " + i + ", 2)", due.rows.about(0, i, 2), sorted[i].length());
            Due.same("order: find(0) of " + sorted[i], due.find(0, sorted[i]), i);
            for (int k = 0; k < sorted[i].length(); k++) {
                Due.same("order: sign(0, " + i + ", " + k + ")", due.rows.sign(0, i, k), sorted[i].charAt(k));
            }
        }
    }

    private static void behindTheLastOfEight() {
        Due due = new Due();
        for (int i = 0; i < 8; i++) {
            due.both("f" + i, i);
        }
        due.rows.accept();
        Due.same("eight: about(0, 7, 0)", due.rows.about(0, 7, 0), 1);
        Due.same("eight: about(0, 8, 0)", due.rows.about(0, 8, 0), NONE);
        Due.same("eight: sign(0, 8, 0)", due.rows.sign(0, 8, 0), NONE);
        Due.same("eight: at(0, 8, 0)", due.at(0, 8, 0), NONE);
    }

    private static void filesOfVersions() {
        Due due = new Due();
        for (int v = 0; v < 12; v++) {
            for (int i = 0; i < v % 9; i++) {
                due.both("f" + i, v);
            }
            Due.same("files(" + v + ") before accept()", due.rows.files(v), NONE);
            due.rows.accept();
            Due.same("files(" + v + ")", due.rows.files(v), v % 9);
        }
        Due.same("files(12)", due.rows.files(12), NONE);
        Due.same("files(most)", due.rows.files(Integer.MAX_VALUE), NONE);
        for (int v : BELOW) {
            Due.same("files(" + v + ")", due.rows.files(v), NONE);
        }
    }

    private static void aboutAFile() {
        Due due = new Due();
        due.both("a/long.name", 1, 2, 3);
        due.both("empty");
        due.rows.accept();
        Due.same("about: bytes", due.rows.about(0, 0, 0), 3);
        Due.same("about: sum", due.rows.about(0, 0, 1), Due.sumOf(1, 2, 3));
        Due.same("about: signs", due.rows.about(0, 0, 2), 11);
        Due.same("about: first version", due.rows.about(0, 0, 3), 0);
        Due.same("about: no bytes", due.rows.about(0, 1, 0), 0);
        Due.same("about: sum of no bytes", due.rows.about(0, 1, 1), 1);
        int[] wrongWhats = {Integer.MIN_VALUE, -1, 4, 5, Integer.MAX_VALUE};
        for (int what : wrongWhats) {
            Due.same("about(0, 0, " + what + ")", due.rows.about(0, 0, what), NONE);
        }
        for (int what = 0; what < 4; what++) {
            Due.same("about(0, 2, " + what + ")", due.rows.about(0, 2, what), NONE);
            Due.same("about(1, 0, " + what + ")", due.rows.about(1, 0, what), NONE);
            Due.same("about(0, most, " + what + ")", due.rows.about(0, Integer.MAX_VALUE, what), NONE);
            for (int below : BELOW) {
                Due.same("about(0, " + below + ", " + what + ")", due.rows.about(0, below, what), NONE);
                Due.same("about(" + below + ", 0, " + what + ")", due.rows.about(below, 0, what), NONE);
            }
        }
    }

    private static void sharing() {
        Due due = new Due();
        for (int v = 0; v < 12; v++) {
            due.both("stays", 1, 2);
            due.both("moves", v);
            due.both("twos", v / 2);
            due.rows.accept();
            Due.same("sharing: moves of " + v, due.rows.about(v, 0, 3), v);
            Due.same("sharing: stays of " + v, due.rows.about(v, 1, 3), 0);
            Due.same("sharing: twos of " + v, due.rows.about(v, 2, 3), v / 2 * 2);
        }
        Due.same("sharing: an older one is as it was", due.rows.about(3, 0, 3), 3);
    }

    private static void sharingEndsWhereBytesChange() {
        Due due = new Due();
        due.both("a", 1);
        due.both("b", 9);
        due.rows.accept();
        due.both("a", 2);
        due.both("c", 9);
        due.rows.accept();
        due.both("a", 1);
        due.both("b", 9);
        due.both("c", 9, 9);
        due.rows.accept();
        Due.same("sharing: bytes of two versions before", due.rows.about(2, 0, 3), 2);
        Due.same("sharing: a path that was gone", due.rows.about(2, 1, 3), 2);
        Due.same("sharing: bytes that grew", due.rows.about(2, 2, 3), 2);
        Due.same("sharing: the same bytes in another path", due.rows.about(1, 1, 3), 1);
        due.both("c", 9);
        due.rows.accept();
        Due.same("sharing: bytes that shrank", due.rows.about(3, 0, 3), 3);
        due.both("c");
        due.rows.accept();
        Due.same("sharing: bytes that went", due.rows.about(4, 0, 3), 4);
        due.both("c");
        due.rows.accept();
        Due.same("sharing: no bytes twice", due.rows.about(5, 0, 3), 4);
    }

    private static void signs() {
        Due due = new Due();
        due.both("a/b");
        due.rows.accept();
        Due.same("sign(0, 0, 0)", due.rows.sign(0, 0, 0), 'a');
        Due.same("sign(0, 0, 1)", due.rows.sign(0, 0, 1), '/');
        Due.same("sign(0, 0, 2)", due.rows.sign(0, 0, 2), 'b');
        Due.same("sign(0, 0, 3)", due.rows.sign(0, 0, 3), NONE);
        Due.same("sign(0, 0, most)", due.rows.sign(0, 0, Integer.MAX_VALUE), NONE);
        Due.same("sign(0, 1, 0)", due.rows.sign(0, 1, 0), NONE);
        Due.same("sign(1, 0, 0)", due.rows.sign(1, 0, 0), NONE);
        for (int below : BELOW) {
            Due.same("sign(0, 0, " + below + ")", due.rows.sign(0, 0, below), NONE);
            Due.same("sign(0, " + below + ", 0)", due.rows.sign(0, below, 0), NONE);
            Due.same("sign(" + below + ", 0, 0)", due.rows.sign(below, 0, 0), NONE);
        }
    }

    private static void bytes() {
        Due due = new Due();
        due.both("a", 255, 0);
        due.both("b");
        due.rows.accept();
        Due.same("at(0, 0, 0)", due.at(0, 0, 0), 255);
        Due.same("at(0, 0, 1)", due.at(0, 0, 1), 0);
        Due.same("at(0, 0, 2)", due.at(0, 0, 2), Due.OUT_OF_BOUNDS);
        Due.same("at(0, 0, most)", due.at(0, 0, Integer.MAX_VALUE), Due.OUT_OF_BOUNDS);
        Due.same("at(0, 1, 0)", due.at(0, 1, 0), Due.OUT_OF_BOUNDS);
        Due.same("at(0, 2, 0)", due.at(0, 2, 0), NONE);
        Due.same("at(0, 2, 99)", due.at(0, 2, 99), NONE);
        Due.same("at(1, 0, 0)", due.at(1, 0, 0), NONE);
        for (int below : BELOW) {
            Due.same("at(0, 0, " + below + ")", due.at(0, 0, below), Due.OUT_OF_BOUNDS);
            Due.same("at(0, " + below + ", 0)", due.at(0, below, 0), NONE);
            Due.same("at(" + below + ", 0, " + below + ")", due.at(below, 0, below), NONE);
        }
    }

    private static void finds() {
        Due due = new Due();
        due.both("b");
        due.both("ab");
        due.rows.accept();
        due.both("b");
        due.rows.accept();
        due.path("b");
        Due.same("find(0)", due.rows.find(0), 1);
        Due.same("find(1): the path stays", due.rows.find(1), 0);
        Due.same("find(2)", due.rows.find(2), NONE);
        Due.same("find(most)", due.rows.find(Integer.MAX_VALUE), NONE);
        for (int below : BELOW) {
            Due.same("find(" + below + ")", due.rows.find(below), NONE);
        }
        Due.same("find(): file() with the path that stayed", due.rows.file(), 1);
        Due.same("find(0) of no path", due.rows.find(0), NONE);
        Due.same("find(0) of a beginning", due.find(0, "a"), NONE);
        Due.same("find(0) of a longer one", due.find(0, "abc"), NONE);
        Due.same("find(0) of another one", due.find(0, "bb"), NONE);
        Due.same("find(0) of what is no path", due.find(0, "/b"), NONE);
        Due.same("find(0) of too long a path", due.find(0, "b".repeat(31)), NONE);
    }

    private static void sames() {
        Due due = new Due();
        due.both("a", 1);
        due.both("b", 2);
        due.both("c", 3);
        due.rows.accept();
        due.both("b", 2);
        due.both("c", 3, 3);
        due.both("d", 1);
        due.rows.accept();
        due.both("a", 1);
        due.both("c", 3);
        due.rows.accept();
        due.rows.accept();
        int[][] expected = {{3, 1, 2, 0}, {1, 3, 0, 0}, {2, 0, 2, 0}, {0, 0, 0, 0}};
        for (int one = 0; one < 4; one++) {
            for (int two = 0; two < 4; two++) {
                Due.same("same(" + one + ", " + two + ")", due.rows.same(one, two), expected[one][two]);
            }
        }
        Due.same("same(0, 4)", due.rows.same(0, 4), NONE);
        Due.same("same(4, 0)", due.rows.same(4, 0), NONE);
        Due.same("same(4, 4)", due.rows.same(4, 4), NONE);
        for (int below : BELOW) {
            Due.same("same(0, " + below + ")", due.rows.same(0, below), NONE);
            Due.same("same(" + below + ", 0)", due.rows.same(below, 0), NONE);
        }
    }

    private static void versionsStayAsTheyAre() {
        Due due = new Due();
        due.both("a", 1, 2, 3);
        due.rows.accept();
        due.both("a", 1, 2, 4);
        due.file("a", 7);
        due.rows.accept();
        due.rows.drop();
        due.both("a", 9);
        due.rows.accept();
        Due.same("stay: files(0)", due.rows.files(0), 1);
        Due.same("stay: about(0, 0, 0)", due.rows.about(0, 0, 0), 3);
        Due.same("stay: about(0, 0, 1)", due.rows.about(0, 0, 1), Due.sumOf(1, 2, 3));
        Due.same("stay: at(0, 0, 2)", due.at(0, 0, 2), 3);
        Due.same("stay: at(1, 0, 0)", due.at(1, 0, 0), 9);
        Due.same("stay: files(2)", due.rows.files(2), NONE);
    }
}
