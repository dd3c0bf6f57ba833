/** The sections "Promise 17" to "Promise 20", each sentence that names a boundary case by a test of its own. */
public final class TransferEdgeTest {
    private static final int NONE = PackageRows2.NONE;
    private static final int RANGE = PackageRows2.RANGE;
    private static final int STATE = PackageRows2.STATE;
    private static final int LEAST = Integer.MIN_VALUE;
    private static final int MOST = Integer.MAX_VALUE;

    public static void main(String[] args) {
        split();
        piece();
        missing();
        joined();
        Due.end();
    }

    private static Due ofFive() {
        Due due = new Due();
        due.both("a", 11, 12);
        due.both("b", 13, 14, 15);
        due.rows.accept();
        return due;
    }

    /** A TRANSFER of three pieces, of which none came. */
    private static Due ofThreePieces() {
        Due due = ofFive();
        due.rows.split(0, 2);
        return due;
    }

    /** A TRANSFER of a version without bytes. */
    private static Due ofNoPieces() {
        Due due = new Due();
        due.both("a");
        due.rows.accept();
        due.rows.split(0, 7);
        return due;
    }

    private static void split() {
        lengthTooSmall();
        lengthAtItsEnds();
        lengthTooLarge();
        noSuchVersion();
        theMostPieces();
        noneCameYet();
        inPlaceOfTheOneBefore();
        inPlaceOfALongerOne();
        refusedSplitLeavesTheOneBefore();
    }

    private static void lengthTooSmall() {
        Due.words("promise 17", "a length, 1 .. 100: too small");
        Due due = ofFive();
        int[] lengths = {0, -1, -100, LEAST};
        for (int length : lengths) {
            Due.same("split(0, " + length + ")", due.rows.split(0, length), RANGE);
        }
        Due.same("piece(0, true)", due.rows.piece(0, true), RANGE);
    }

    private static void lengthAtItsEnds() {
        Due.words("promise 17", "a length, 1 .. 100: 1 and 100");
        Due due = ofFive();
        Due.same("split(0, 1)", due.rows.split(0, 1), 5);
        Due.same("split(0, 100)", due.rows.split(0, 100), 1);
        Due large = ofTheMost();
        Due.same("split(0, 99) of 320", large.rows.split(0, 99), 4);
        Due.same("split(0, 100) of 320", large.rows.split(0, 100), 4);
        Due.same("split(0, 80) of 320", large.rows.split(0, 80), 4);
        Due.same("split(0, 79) of 320", large.rows.split(0, 79), 5);
    }

    private static void lengthTooLarge() {
        Due.words("promise 17", "a length, 1 .. 100: too large");
        Due due = ofFive();
        int[] lengths = {101, 102, 356, MOST};
        for (int length : lengths) {
            Due.same("split(0, " + length + ")", due.rows.split(0, length), RANGE);
        }
        Due.same("joined(0)", due.rows.joined(0), STATE);
    }

    private static void noSuchVersion() {
        Due.words("promise 17", "NONE");
        Due due = ofFive();
        int[] versions = {LEAST, -1, 1, 11, 12, MOST};
        for (int version : versions) {
            Due.same("split(" + version + ", 1)", due.rows.split(version, 1), NONE);
            Due.same("split(" + version + ", 0)", due.rows.split(version, 0), NONE);
        }
        Due.same("missing()", due.rows.missing(), NONE);
    }

    private static Due ofTheMost() {
        Due due = new Due();
        for (int i = 0; i < 8; i++) {
            due.both("f" + i, Due.repeat(40, 10 * i));
        }
        due.rows.accept();
        return due;
    }

    private static void theMostPieces() {
        Due.words("promise 17", "how many PIECES: the most");
        Due due = ofTheMost();
        Due.same("split(0, 1)", due.rows.split(0, 1), 320);
        Due.same("piece(319, true)", due.rows.piece(319, true), 319);
        Due.same("piece(320, true)", due.rows.piece(320, true), RANGE);
        Due.same("split(0, 40)", due.rows.split(0, 40), 8);
        for (int i = 7; i >= 0; i--) {
            Due.same("piece(" + i + ", true)", due.rows.piece(i, true), i);
        }
        Due.same("joined(0)", due.rows.joined(0), 0);
        Due.same("joined(319)", due.rows.joined(319), 70);
        Due.same("joined(320)", due.rows.joined(320), NONE);
    }

    private static void noneCameYet() {
        Due.words("promise 17", "none came yet");
        Due due = ofThreePieces();
        Due.same("missing()", due.rows.missing(), 0);
        Due.same("piece(0, false)", due.rows.piece(0, false), 3);
        Due.same("joined(0)", due.rows.joined(0), STATE);
    }

    private static void inPlaceOfTheOneBefore() {
        Due.words("promise 17", "in place of the one before");
        Due due = ofThreePieces();
        due.both("c", 99);
        due.rows.accept();
        due.rows.piece(0, true);
        due.rows.piece(1, true);
        due.rows.piece(2, true);
        Due.same("joined(0)", due.rows.joined(0), 11);
        Due.same("split(1, 2)", due.rows.split(1, 2), 1);
        Due.same("joined(0) of the new one", due.rows.joined(0), STATE);
        Due.same("piece(1, true)", due.rows.piece(1, true), RANGE);
        Due.same("piece(0, true)", due.rows.piece(0, true), 0);
        Due.same("joined(0)", due.rows.joined(0), 99);
        Due.same("joined(1)", due.rows.joined(1), NONE);
    }

    /** What came of the first TRANSFER must not stand in the third, which is as long again. */
    private static void inPlaceOfALongerOne() {
        Due.words("promise 17", "in place of the one before; none came yet: longer, shorter, longer");
        Due due = ofFive();
        due.rows.accept();
        due.rows.split(0, 1);
        for (int i = 0; i < 5; i++) {
            due.rows.piece(i, true);
        }
        Due.same("split(0, 5)", due.rows.split(0, 5), 1);
        Due.same("missing() of one", due.rows.missing(), 0);
        Due.same("split(1, 1)", due.rows.split(1, 1), 0);
        Due.same("missing() of none", due.rows.missing(), NONE);
        Due.same("joined(0) of none", due.rows.joined(0), NONE);
        Due.same("split(0, 1)", due.rows.split(0, 1), 5);
        for (int i = 0; i < 5; i++) {
            Due.same("missing()", due.rows.missing(), i);
            Due.same("piece(" + i + ", true)", due.rows.piece(i, true), 4 - i);
        }
    }

    private static void refusedSplitLeavesTheOneBefore() {
        Due.words("promise 17", "nothing happens then");
        Due due = ofThreePieces();
        due.rows.piece(0, true);
        due.rows.split(0, 0);
        due.rows.split(0, 101);
        due.rows.split(1, 2);
        due.rows.split(-1, 2);
        Due.same("missing()", due.rows.missing(), 1);
        Due.same("piece(1, true)", due.rows.piece(1, true), 1);
        Due.same("piece(2, true)", due.rows.piece(2, true), 0);
        Due.same("joined(4)", due.rows.joined(4), 15);
    }

    private static void piece() {
        piecesThatAreNot();
        pieceWithoutTransfer();
        pieceOfNone();
        spoiltChangesNothing();
        spoiltBehindUnspoilt();
        unspoiltAgain();
        allButOne();
    }

    private static void piecesThatAreNot() {
        Due.words("promise 18", "RANGE for none such");
        Due due = ofThreePieces();
        int[] places = {LEAST, -1, 3, 4, 319, 320, MOST};
        for (int i : places) {
            Due.same("piece(" + i + ", true)", due.rows.piece(i, true), RANGE);
            Due.same("piece(" + i + ", false)", due.rows.piece(i, false), RANGE);
        }
        Due.same("piece(2, false)", due.rows.piece(2, false), 3);
    }

    private static void pieceWithoutTransfer() {
        Due.words("promise 18", "or without a TRANSFER");
        Due due = ofFive();
        Due.same("piece(0, true)", due.rows.piece(0, true), RANGE);
        Due.same("piece(0, false)", due.rows.piece(0, false), RANGE);
        Due.same("joined(0)", due.rows.joined(0), STATE);
    }

    private static void pieceOfNone() {
        Due.words("promise 18", "RANGE for none such: a TRANSFER of no PIECES");
        Due due = ofNoPieces();
        Due.same("piece(0, true)", due.rows.piece(0, true), RANGE);
        Due.same("piece(-1, true)", due.rows.piece(-1, true), RANGE);
        Due.same("piece(0, false)", due.rows.piece(0, false), RANGE);
    }

    private static void spoiltChangesNothing() {
        Due.words("promise 18", "a spoilt one changes nothing");
        Due due = ofThreePieces();
        for (int i = 0; i < 3; i++) {
            Due.same("piece(" + i + ", false)", due.rows.piece(i, false), 3);
        }
        Due.same("missing()", due.rows.missing(), 0);
        Due.same("joined(0)", due.rows.joined(0), STATE);
    }

    private static void spoiltBehindUnspoilt() {
        Due.words("promise 18", "one that came unspoilt has come");
        Due due = ofThreePieces();
        Due.same("piece(0, true)", due.rows.piece(0, true), 2);
        Due.same("piece(0, false)", due.rows.piece(0, false), 2);
        Due.same("missing()", due.rows.missing(), 1);
        due.rows.piece(1, true);
        due.rows.piece(2, true);
        Due.same("piece(2, false)", due.rows.piece(2, false), 0);
        Due.same("joined(0)", due.rows.joined(0), 11);
    }

    private static void unspoiltAgain() {
        Due.words("promise 18", "how many are missing: the same one again");
        Due due = ofThreePieces();
        Due.same("piece(1, true)", due.rows.piece(1, true), 2);
        Due.same("piece(1, true) again", due.rows.piece(1, true), 2);
        Due.same("piece(1, true) once more", due.rows.piece(1, true), 2);
        Due.same("missing()", due.rows.missing(), 0);
    }

    private static void allButOne() {
        Due.words("promise 18", "how many are missing: down to none");
        Due due = ofThreePieces();
        Due.same("piece(2, true)", due.rows.piece(2, true), 2);
        Due.same("piece(0, true)", due.rows.piece(0, true), 1);
        Due.same("piece(1, true)", due.rows.piece(1, true), 0);
        Due.same("piece(1, true) again", due.rows.piece(1, true), 0);
    }

    private static void missing() {
        theFirstIsMissing();
        theLastIsMissing();
        noneIsMissing();
        missingOfNone();
        missingWithoutTransfer();
    }

    private static void theFirstIsMissing() {
        Due.words("promise 19", "The first PIECE that is missing");
        Due due = ofThreePieces();
        Due.same("missing()", due.rows.missing(), 0);
        due.rows.piece(1, true);
        Due.same("missing() with 1", due.rows.missing(), 0);
        due.rows.piece(0, true);
        Due.same("missing() with 0, 1", due.rows.missing(), 2);
    }

    private static void theLastIsMissing() {
        Due.words("promise 19", "The first PIECE that is missing: the last one");
        Due due = ofFive();
        due.rows.split(0, 1);
        for (int i = 0; i < 4; i++) {
            due.rows.piece(i, true);
        }
        due.rows.piece(4, false);
        Due.same("missing()", due.rows.missing(), 4);
    }

    private static void noneIsMissing() {
        Due.words("promise 19", "NONE if none is");
        Due due = ofThreePieces();
        for (int i = 0; i < 3; i++) {
            due.rows.piece(i, true);
        }
        Due.same("missing()", due.rows.missing(), NONE);
    }

    private static void missingOfNone() {
        Due.words("promise 19", "NONE if none is: a TRANSFER of no PIECES");
        Due.same("missing()", ofNoPieces().rows.missing(), NONE);
    }

    private static void missingWithoutTransfer() {
        Due.words("promise 19", "or without a TRANSFER");
        Due.same("missing() of a new object", new Due().rows.missing(), NONE);
        Due due = ofFive();
        due.rows.split(0, 0);
        Due.same("missing() behind a split that was refused", due.rows.missing(), NONE);
    }

    private static void joined() {
        joinedWhileOneIsMissing();
        joinedWithoutTransfer();
        joinedAtItsEnds();
        joinedPastItsEnd();
        joinedOfNoBytes();
        joinedAcrossPieces();
        joinedBehindNewVersions();
    }

    private static void joinedWhileOneIsMissing() {
        Due.words("promise 20", "STATE while a PIECE is missing");
        Due due = ofThreePieces();
        Due.same("joined(0) with none", due.rows.joined(0), STATE);
        due.rows.piece(0, true);
        due.rows.piece(1, true);
        due.rows.piece(2, false);
        int[] places = {LEAST, -1, 0, 3, 4, 5, MOST};
        for (int i : places) {
            Due.same("joined(" + i + ") with one missing", due.rows.joined(i), STATE);
        }
        due.rows.piece(2, true);
        Due.same("joined(0) with all", due.rows.joined(0), 11);
    }

    private static void joinedWithoutTransfer() {
        Due.words("promise 20", "or without one");
        Due due = ofFive();
        int[] places = {LEAST, -1, 0, 5, MOST};
        for (int i : places) {
            Due.same("joined(" + i + ")", due.rows.joined(i), STATE);
        }
    }

    private static void joinedAtItsEnds() {
        Due.words("promise 20", "the i-th byte of the TRANSFER, 0 .. 255");
        Due due = new Due();
        due.both("a", 0, 128);
        due.both("b", 127, 255);
        due.rows.accept();
        due.rows.split(0, 100);
        due.rows.piece(0, true);
        Due.same("joined(0)", due.rows.joined(0), 0);
        Due.same("joined(1)", due.rows.joined(1), 128);
        Due.same("joined(2)", due.rows.joined(2), 127);
        Due.same("joined(3)", due.rows.joined(3), 255);
    }

    private static void joinedPastItsEnd() {
        Due.words("promise 20", "NONE past its end");
        Due due = ofFive();
        due.rows.split(0, 3);
        due.rows.piece(0, true);
        due.rows.piece(1, true);
        Due.same("joined(4)", due.rows.joined(4), 15);
        int[] places = {5, 6, 40, 319, 320, MOST, -1, LEAST};
        for (int i : places) {
            Due.same("joined(" + i + ")", due.rows.joined(i), NONE);
        }
    }

    private static void joinedOfNoBytes() {
        Due.words("promise 20", "NONE past its end: a TRANSFER of no bytes");
        Due due = ofNoPieces();
        Due.same("joined(0)", due.rows.joined(0), NONE);
        Due.same("joined(1)", due.rows.joined(1), NONE);
        Due.same("joined(-1)", due.rows.joined(-1), NONE);
    }

    private static void joinedAcrossPieces() {
        Due.words("promise 20", "the i-th byte of the TRANSFER: whatever the length");
        for (int length = 1; length <= 6; length++) {
            Due due = ofFive();
            int count = due.rows.split(0, length);
            for (int i = 0; i < count; i++) {
                due.rows.piece(i, true);
            }
            for (int i = 0; i < 5; i++) {
                Due.same("joined(" + i + ") by " + length, due.rows.joined(i), 11 + i);
            }
        }
    }

    private static void joinedBehindNewVersions() {
        Due.words("promise 20", "the i-th byte of the TRANSFER: also with versions behind it");
        Due due = ofThreePieces();
        for (int i = 0; i < 3; i++) {
            due.rows.piece(i, true);
        }
        due.both("a", 77);
        due.rows.accept();
        due.file("a", 78);
        due.rows.drop();
        Due.same("joined(0)", due.rows.joined(0), 11);
        Due.same("joined(4)", due.rows.joined(4), 15);
    }
}
