/** Promises 17 to 20: split, piece, missing, joined. */
public final class TransferTest {
    private static final int NONE = PackageRows2.NONE;
    private static final int RANGE = PackageRows2.RANGE;
    private static final int STATE = PackageRows2.STATE;

    public static void main(String[] args) {
        splitLengths();
        splitRefusals();
        splitOfNoBytes();
        splitOfTheMost();
        pieces();
        missingIsTheFirst();
        joinedByPaths();
        newTransferInPlaceOfTheOld();
        refusedSplitLeavesTheOld();
        transferOutlivesNewVersions();
        Due.end();
    }

    private static Due withSevenBytes() {
        Due due = new Due();
        due.both("c", 5, 6, 7);
        due.both("b");
        due.both("a", 1, 2, 3, 4);
        due.rows.accept();
        return due;
    }

    private static void splitLengths() {
        Due due = withSevenBytes();
        int[][] lengthsAndPieces = {{1, 7}, {2, 4}, {3, 3}, {4, 2}, {6, 2}, {7, 1}, {8, 1}, {99, 1}, {100, 1}};
        for (int[] pair : lengthsAndPieces) {
            Due.same("split(0, " + pair[0] + ")", due.rows.split(0, pair[0]), pair[1]);
            Due.same("split: missing()", due.rows.missing(), 0);
            Due.same("split: joined(0)", due.rows.joined(0), STATE);
            Due.same("split: piece behind the last", due.rows.piece(pair[1], true), RANGE);
            Due.same("split: the last piece", due.rows.piece(pair[1] - 1, true), pair[1] - 1);
        }
    }

    private static void splitRefusals() {
        Due due = withSevenBytes();
        int[] wrongLengths = {Integer.MIN_VALUE, -1, 0, 101, 102, Integer.MAX_VALUE};
        int[] wrongVersions = {Integer.MIN_VALUE, -1, 1, 12, Integer.MAX_VALUE};
        for (int length : wrongLengths) {
            Due.same("split(0, " + length + ")", due.rows.split(0, length), RANGE);
            for (int version : wrongVersions) {
                Due.same("split(" + version + ", " + length + ")", due.rows.split(version, length), NONE);
            }
        }
        for (int version : wrongVersions) {
            Due.same("split(" + version + ", 1)", due.rows.split(version, 1), NONE);
        }
        Due.same("refused: piece(0, true)", due.rows.piece(0, true), RANGE);
        Due.same("refused: missing()", due.rows.missing(), NONE);
        Due.same("refused: joined(0)", due.rows.joined(0), STATE);
    }

    private static void splitOfNoBytes() {
        Due due = new Due();
        due.both("a");
        due.rows.accept();
        Due.same("no bytes: joined(0) before", due.rows.joined(0), STATE);
        Due.same("no bytes: split(0, 1)", due.rows.split(0, 1), 0);
        Due.same("no bytes: missing()", due.rows.missing(), NONE);
        Due.same("no bytes: piece(0, true)", due.rows.piece(0, true), RANGE);
        Due.same("no bytes: joined(0)", due.rows.joined(0), NONE);
        Due.same("no bytes: joined(-1)", due.rows.joined(-1), NONE);
    }

    /** Told bytes leave room for no more than 140 calls here, so that not all 320 pieces come. */
    private static void splitOfTheMost() {
        Due due = new Due();
        for (int i = 0; i < 8; i++) {
            due.both("f" + i, Due.repeat(40, i + 1));
        }
        due.rows.accept();
        Due.same("most: split(0, 1)", due.rows.split(0, 1), 320);
        Due.same("most: piece(320, true)", due.rows.piece(320, true), RANGE);
        Due.same("most: piece(319, true)", due.rows.piece(319, true), 319);
        Due.same("most: piece(0, true)", due.rows.piece(0, true), 318);
        Due.same("most: missing()", due.rows.missing(), 1);
        Due.same("most: split(0, 100)", due.rows.split(0, 100), 4);
        for (int i = 3; i >= 0; i--) {
            Due.same("most: piece(" + i + ", true)", due.rows.piece(i, true), i);
        }
        Due.same("most: missing()", due.rows.missing(), NONE);
        int[] places = {0, 39, 40, 159, 160, 319};
        for (int i : places) {
            Due.same("most: joined(" + i + ")", due.rows.joined(i), i / 40 + 1);
        }
        Due.same("most: joined(320)", due.rows.joined(320), NONE);
    }

    private static void pieces() {
        Due due = withSevenBytes();
        due.rows.split(0, 3);
        Due.same("piece(2, false)", due.rows.piece(2, false), 3);
        Due.same("piece(2, true)", due.rows.piece(2, true), 2);
        Due.same("piece(2, true) again", due.rows.piece(2, true), 2);
        Due.same("piece(2, false) behind it", due.rows.piece(2, false), 2);
        Due.same("piece(0, true)", due.rows.piece(0, true), 1);
        int[] wrong = {Integer.MIN_VALUE, -1, 3, 4, 320, Integer.MAX_VALUE};
        for (int i : wrong) {
            Due.same("piece(" + i + ", true)", due.rows.piece(i, true), RANGE);
            Due.same("piece(" + i + ", false)", due.rows.piece(i, false), RANGE);
        }
        Due.same("piece(1, true)", due.rows.piece(1, true), 0);
        Due.same("piece(1, false) with all there", due.rows.piece(1, false), 0);
        Due.same("joined(6) with all there", due.rows.joined(6), 7);
    }

    private static void missingIsTheFirst() {
        Due due = withSevenBytes();
        Due.same("missing() without a transfer", due.rows.missing(), NONE);
        due.rows.split(0, 2);
        Due.same("missing() of none", due.rows.missing(), 0);
        due.rows.piece(1, true);
        Due.same("missing() with 1", due.rows.missing(), 0);
        due.rows.piece(0, false);
        Due.same("missing() with a spoilt 0", due.rows.missing(), 0);
        due.rows.piece(0, true);
        Due.same("missing() with 0 and 1", due.rows.missing(), 2);
        due.rows.piece(2, true);
        Due.same("missing() with 0 to 2", due.rows.missing(), 3);
        due.rows.piece(3, true);
        Due.same("missing() with all", due.rows.missing(), NONE);
    }

    private static void joinedByPaths() {
        Due due = withSevenBytes();
        Due.same("joined(0) without a transfer", due.rows.joined(0), STATE);
        Due.same("joined(-1) without a transfer", due.rows.joined(-1), STATE);
        due.rows.split(0, 4);
        due.rows.piece(0, true);
        Due.same("joined(0) of a piece that came, one missing", due.rows.joined(0), STATE);
        Due.same("joined(7) with one missing", due.rows.joined(7), STATE);
        due.rows.piece(1, true);
        for (int i = 0; i < 7; i++) {
            Due.same("joined(" + i + ")", due.rows.joined(i), i + 1);
        }
        int[] outside = {Integer.MIN_VALUE, -1, 7, 8, Integer.MAX_VALUE};
        for (int i : outside) {
            Due.same("joined(" + i + ")", due.rows.joined(i), NONE);
        }
    }

    private static void newTransferInPlaceOfTheOld() {
        Due due = withSevenBytes();
        due.both("a", 200);
        due.rows.accept();
        due.rows.split(0, 7);
        due.rows.piece(0, true);
        Due.same("again: split(0, 7)", due.rows.split(0, 7), 1);
        Due.same("again: missing()", due.rows.missing(), 0);
        Due.same("again: joined(0)", due.rows.joined(0), STATE);
        due.rows.piece(0, true);
        Due.same("again: split(1, 7)", due.rows.split(1, 7), 1);
        Due.same("again: piece(0, true)", due.rows.piece(0, true), 0);
        Due.same("again: joined(0)", due.rows.joined(0), 200);
        Due.same("again: joined(1)", due.rows.joined(1), NONE);
    }

    private static void refusedSplitLeavesTheOld() {
        Due due = withSevenBytes();
        due.rows.split(0, 4);
        due.rows.piece(0, true);
        due.rows.split(1, 1);
        due.rows.split(0, 0);
        due.rows.split(0, 101);
        Due.same("left: missing()", due.rows.missing(), 1);
        Due.same("left: piece(1, true)", due.rows.piece(1, true), 0);
        Due.same("left: joined(6)", due.rows.joined(6), 7);
    }

    private static void transferOutlivesNewVersions() {
        Due due = withSevenBytes();
        due.rows.split(0, 7);
        due.rows.piece(0, true);
        due.both("a", 9, 9);
        due.rows.accept();
        due.file("b", 8);
        due.rows.drop();
        Due.same("outlives: missing()", due.rows.missing(), NONE);
        Due.same("outlives: joined(0)", due.rows.joined(0), 1);
    }
}
