/**
 * Of the section "Terms": CHECK, TO ACCEPT, SHARED, TRANSFER and several reasons:
 * each sentence that names a boundary case by a test of its own.
 */
public final class RulesEdgeTest {
    private static final int NONE = PackageRows2.NONE;
    private static final int RANGE = PackageRows2.RANGE;
    private static final int STATE = PackageRows2.STATE;
    private static final int FULL = PackageRows2.FULL;

    public static void main(String[] args) {
        check();
        accept();
        shared();
        transfer();
        severalReasons();
        Due.end();
    }

    private static void check() {
        lineOfAPathBefore();
        lineWithoutFile();
        ofTheFirstFile();
        anotherSize();
        anotherSum();
        fileOfAPathBefore();
        fileWithoutLine();
        linesBeforeFiles();
    }

    private static void lineOfAPathBefore() {
        Due.words("CHECK", "1 the same path stands in a line before; else 2");
        Due due = new Due();
        due.line("a", 0, 1);
        due.line("b", 0, 1);
        due.line("a", 0, 1);
        due.line("a", 9, 9);
        due.rows.check();
        due.faults("no file", 2, 0, 2, 1, 1, 2, 1, 3);
        due.file("a");
        due.file("b");
        due.rows.check();
        due.faults("a line that would fit, and one that would not", 1, 2, 1, 3);
    }

    private static void lineWithoutFile() {
        Due.words("CHECK", "else 2 no file of that path came");
        Due due = new Due();
        due.file("ab", 1);
        due.line("a", 1, Due.sumOf(1));
        due.line("abc", 1, Due.sumOf(1));
        due.line("ab", 1, Due.sumOf(1));
        due.rows.check();
        due.faults("a beginning and a longer one are other paths", 2, 0, 2, 1);
    }

    private static void ofTheFirstFile() {
        Due.words("CHECK", "of the first file that came with it");
        Due due = new Due();
        due.file("a", 1, 2);
        due.file("a", 3);
        due.line("a", 1, Due.sumOf(3));
        due.rows.check();
        due.faults("the second one fits", 3, 0, 5, 1);
        due.rows.drop();
        due.file("a", 1, 2);
        due.file("a", 3);
        due.line("a", 2, Due.sumOf(1, 2));
        due.rows.check();
        due.faults("the first one fits", 5, 1);
    }

    private static void anotherSize() {
        Due.words("CHECK", "3 its size is another one; else");
        Due due = new Due();
        due.file("a", 1);
        due.file("b", 1);
        due.file("c");
        due.file("d", Due.repeat(40, 1));
        due.line("a", 0, Due.sumOf(1));
        due.line("b", 2, 0);
        due.line("c", 40, 1);
        due.line("d", 39, Due.sumOf(Due.repeat(40, 1)));
        due.rows.check();
        due.faults("one less, one more, none, one less than the most", 3, 0, 3, 1, 3, 2, 3, 3);
    }

    private static void anotherSum() {
        Due.words("CHECK", "else 4 its SUM");
        Due due = new Due();
        due.file("a", Due.TWIN_ONE);
        due.file("b", 1);
        due.file("c", 1);
        due.file("d");
        due.line("a", 5, Due.TWIN_SUM);
        due.line("b", 1, Due.sumOf(1) - 1);
        due.line("c", 1, Due.sumOf(1) + 1);
        due.line("d", 0, 0);
        due.rows.check();
        due.faults("one less, one more, of no bytes", 4, 1, 4, 2, 4, 3);
        due.rows.drop();
        due.file("a", Due.TWIN_ONE);
        due.line("a", 5, Due.TWIN_SUM ^ Integer.MIN_VALUE);
        due.rows.check();
        due.faults("the highest bit", 4, 0);
    }

    private static void fileOfAPathBefore() {
        Due.words("CHECK", "5 the same path came before; else 6");
        Due due = new Due();
        due.file("a");
        due.file("b");
        due.file("a");
        due.file("a", 1);
        due.rows.check();
        due.faults("without lines", 6, 0, 6, 1, 5, 2, 5, 3);
        due.line("a", 0, 1);
        due.line("b", 0, 1);
        due.rows.check();
        due.faults("with lines", 5, 2, 5, 3);
    }

    private static void fileWithoutLine() {
        Due.words("CHECK", "else 6 no line has it");
        Due due = new Due();
        due.line("ab", 0, 1);
        due.file("a");
        due.file("abc");
        due.file("ab");
        due.rows.check();
        due.faults("a beginning and a longer one are other paths", 6, 0, 6, 1);
        due.line("a", 7, 7);
        due.rows.check();
        due.faults("a line that does not fit has the path all the same", 3, 1, 6, 1);
    }

    private static void linesBeforeFiles() {
        Due.words("CHECK", "of the lines .. in order .. Then of the files that came, in order");
        Due due = new Due();
        due.file("x");
        due.line("y", 0, 1);
        due.file("x");
        due.line("y", 0, 1);
        due.rows.check();
        due.faults("told in turn", 2, 0, 1, 1, 6, 0, 5, 1);
    }

    private static void accept() {
        acceptBeginsWithACheck();
        acceptWithoutFaults();
        acceptLeavesWhatIsCollected();
        acceptOfNothing();
        acceptWithFaults();
    }

    private static void acceptBeginsWithACheck() {
        Due.words("TO ACCEPT", "begins with a CHECK (whose FAULTS fault() tells then)");
        Due due = new Due();
        due.file("a");
        due.rows.check();
        due.file("b");
        Due.same("accept()", due.rows.accept(), -12);
        due.faults("two now", 6, 0, 6, 1);
        due.line("a", 0, 1);
        due.line("b", 0, 1);
        Due.same("accept() of what fits", due.rows.accept(), 0);
        due.faults("none now");
    }

    private static void acceptWithoutFaults() {
        Due.words("TO ACCEPT", "nothing is there to come any more");
        Due due = new Due();
        due.both("a");
        due.rows.accept();
        Due.same("check()", due.rows.check(), 0);
        Due.same("drop()", due.rows.drop(), 0);
        Due.same("file()", due.file("a"), 1);
        Due.same("line()", due.line("a", 0, 1), 1);
    }

    private static void acceptLeavesWhatIsCollected() {
        Due.words("TO ACCEPT", "what came is a version more: what is collected did not come yet");
        Due due = new Due();
        due.both("a");
        due.path("b").bytes(2);
        Due.same("accept()", due.rows.accept(), 0);
        Due.same("sum()", due.rows.sum(), Due.sumOf(2));
        Due.same("file()", due.rows.file(), 1);
        due.line("b", 1, Due.sumOf(2));
        Due.same("accept() of it", due.rows.accept(), 1);
    }

    private static void acceptOfNothing() {
        Due.words("TO ACCEPT", "without FAULTS what came is a version more: nothing came");
        Due due = new Due();
        Due.same("accept()", due.rows.accept(), 0);
        Due.same("files(0)", due.rows.files(0), 0);
        Due.same("same(0, 0)", due.rows.same(0, 0), 0);
        Due.same("find(0)", due.find(0, "a"), NONE);
    }

    private static void acceptWithFaults() {
        Due.words("TO ACCEPT", "without FAULTS: with one nothing comes about");
        Due due = new Due();
        due.both("a");
        due.file("b");
        Due.same("accept()", due.rows.accept(), -11);
        Due.same("files(0)", due.rows.files(0), NONE);
        due.line("b", 0, 1);
        Due.same("accept() with the line that was missing", due.rows.accept(), 0);
        Due.same("files(0)", due.rows.files(0), 2);
    }

    private static void shared() {
        sharedByBytesNotBySum();
        sharedWithTheVersionBeforeAlone();
        sharedAlongAChain();
        sharedOfNoBytes();
        nothingBeforeTheFirstVersion();
    }

    private static void accepts(Due due, String path, int... bytes) {
        due.both(path, bytes);
        due.rows.accept();
    }

    private static void sharedByBytesNotBySum() {
        Due.words("SHARED", "whose bytes are those");
        Due due = new Due();
        accepts(due, "a", Due.TWIN_ONE);
        accepts(due, "a", Due.TWIN_TWO);
        accepts(due, "a", Due.TWIN_TWO);
        Due.same("same(0, 1)", due.rows.same(0, 1), 0);
        Due.same("same(1, 2)", due.rows.same(1, 2), 1);
        Due.same("about(1, 0, 3)", due.rows.about(1, 0, 3), 1);
        Due.same("about(2, 0, 3)", due.rows.about(2, 0, 3), 1);
        Due.same("at(1, 0, 0)", due.at(1, 0, 0), 106);
    }

    private static void sharedWithTheVersionBeforeAlone() {
        Due.words("SHARED", "of the same path in the version before");
        Due due = new Due();
        accepts(due, "a", 1);
        accepts(due, "b", 1);
        accepts(due, "a", 1);
        Due.same("about(1, 0, 3): another path", due.rows.about(1, 0, 3), 1);
        Due.same("about(2, 0, 3): not the version before", due.rows.about(2, 0, 3), 2);
    }

    private static void sharedAlongAChain() {
        Due.words("SHARED", "(and with whichever that shares it)");
        Due due = new Due();
        due.rows.accept();
        for (int v = 1; v < 12; v++) {
            accepts(due, "a", 1);
            Due.same("about(" + v + ", 0, 3)", due.rows.about(v, 0, 3), 1);
        }
    }

    private static void sharedOfNoBytes() {
        Due.words("SHARED", "whose bytes are those: no bytes, fewer, more");
        Due due = new Due();
        accepts(due, "a");
        accepts(due, "a");
        Due.same("none, none", due.rows.about(1, 0, 3), 0);
        accepts(due, "a", 1);
        Due.same("none, one", due.rows.about(2, 0, 3), 2);
        accepts(due, "a", 1, 1);
        Due.same("one, two", due.rows.about(3, 0, 3), 3);
        accepts(due, "a", 1);
        Due.same("two, one", due.rows.about(4, 0, 3), 4);
        accepts(due, "a", 2);
        Due.same("one, another one", due.rows.about(5, 0, 3), 5);
        accepts(due, "a", Due.repeat(40, 2));
        accepts(due, "a", Due.repeat(40, 2));
        Due.same("forty, forty", due.rows.about(7, 0, 3), 6);
    }

    private static void nothingBeforeTheFirstVersion() {
        Due.words("SHARED", "in the version before: there is none");
        Due due = new Due();
        accepts(due, "a", 1);
        Due.same("about(0, 0, 3)", due.rows.about(0, 0, 3), 0);
    }

    private static void transfer() {
        piecesOfALength();
        theLastPieceMayBeShorter();
        ofNoBytesThereAreNone();
        oneFileBehindTheOther();
    }

    private static Due ofBytes(int count) {
        Due due = new Due();
        accepts(due, "a", Due.repeat(count, 6));
        return due;
    }

    private static void piecesOfALength() {
        Due.words("TRANSFER", "into PIECES of a length");
        Due.same("split(0, 1) of 1", ofBytes(1).rows.split(0, 1), 1);
        Due.same("split(0, 1) of 40", ofBytes(40).rows.split(0, 1), 40);
        Due.same("split(0, 20) of 40", ofBytes(40).rows.split(0, 20), 2);
        Due.same("split(0, 40) of 40", ofBytes(40).rows.split(0, 40), 1);
    }

    private static void theLastPieceMayBeShorter() {
        Due.words("TRANSFER", "the last one may be shorter");
        Due.same("split(0, 39) of 40", ofBytes(40).rows.split(0, 39), 2);
        Due.same("split(0, 41) of 40", ofBytes(40).rows.split(0, 41), 1);
        Due.same("split(0, 100) of 1", ofBytes(1).rows.split(0, 100), 1);
        Due due = ofBytes(5);
        Due.same("split(0, 4) of 5", due.rows.split(0, 4), 2);
        due.rows.piece(0, true);
        Due.same("joined(0)", due.rows.joined(0), STATE);
        due.rows.piece(1, true);
        Due.same("joined(4)", due.rows.joined(4), 6);
        Due.same("joined(5)", due.rows.joined(5), NONE);
    }

    private static void ofNoBytesThereAreNone() {
        Due.words("TRANSFER", "of no bytes there are none");
        for (int count = 0; count <= 8; count += 4) {
            Due due = new Due();
            for (int i = 0; i < count; i++) {
                due.both("f" + i);
            }
            due.rows.accept();
            Due.same("split(0, 1)", due.rows.split(0, 1), 0);
            Due.same("split(0, 100)", due.rows.split(0, 100), 0);
            Due.same("missing()", due.rows.missing(), NONE);
        }
    }

    private static void oneFileBehindTheOther() {
        Due.words("TRANSFER", "one file behind the other by paths");
        Due due = new Due();
        due.both("d", 4);
        due.both("c");
        due.both("b", 2, 3);
        due.both("a");
        due.both("a0", 1);
        due.both("e");
        due.rows.accept();
        Due.same("split(0, 3)", due.rows.split(0, 3), 2);
        due.rows.piece(0, true);
        due.rows.piece(1, true);
        for (int i = 0; i < 4; i++) {
            Due.same("joined(" + i + ")", due.rows.joined(i), i + 1);
        }
        Due.same("joined(4)", due.rows.joined(4), NONE);
    }

    private static void severalReasons() {
        fileRangeBeforeFull();
        lineRangeBeforeFull();
        faultsBeforeState();
        stateBeforeFull();
        faultsBeforeFull();
        noVersionBeforeLength();
        noFaultAndAnotherWhat();
        missingBeforePastTheEnd();
    }

    private static Due withTwelveOfEach() {
        Due due = new Due();
        for (int i = 0; i < 12; i++) {
            due.both("a" + i);
        }
        return due;
    }

    private static void fileRangeBeforeFull() {
        Due.words("Several reasons", "the first in the order told counts: file, RANGE before FULL");
        Due due = withTwelveOfEach();
        Due.same("file() of no path", due.rows.file(), RANGE);
        Due.same("file() of /", due.file("/"), RANGE);
        Due.same("file() of a", due.file("a"), FULL);
    }

    private static void lineRangeBeforeFull() {
        Due.words("Several reasons", "the first in the order told counts: line, RANGE before FULL");
        Due due = withTwelveOfEach();
        Due.same("line(0, 1) of no path", due.rows.line(0, 1), RANGE);
        Due.same("line(41, 1) of a", due.line("a", 41, 1), RANGE);
        Due.same("line(-1, 1) of a", due.line("a", -1, 1), RANGE);
        Due.same("line(0, 1) of a", due.line("a", 0, 1), FULL);
    }

    private static void faultsBeforeState() {
        Due.words("Several reasons", "the first in the order told counts: accept, FAULTS before STATE");
        Due due = Due.withVersions(12);
        due.file("a");
        Due.same("accept()", due.rows.accept(), -11);
        due.line("a", 0, 1);
        Due.same("accept() without FAULTS", due.rows.accept(), STATE);
    }

    private static void stateBeforeFull() {
        Due.words("Several reasons", "the first in the order told counts: accept, STATE before FULL");
        Due due = Due.withVersions(12);
        for (int i = 0; i < 9; i++) {
            due.both("a" + i);
        }
        Due.same("accept()", due.rows.accept(), STATE);
    }

    private static void faultsBeforeFull() {
        Due.words("Several reasons", "the first in the order told counts: accept, FAULTS before FULL");
        Due due = Due.withFiles(9);
        due.line("z", 0, 1);
        Due.same("accept()", due.rows.accept(), -11);
    }

    private static void noVersionBeforeLength() {
        Due.words("Several reasons", "the first in the order told counts: split, NONE before RANGE");
        Due due = Due.withVersions(1);
        Due.same("split(1, 0)", due.rows.split(1, 0), NONE);
        Due.same("split(-1, 101)", due.rows.split(-1, 101), NONE);
        Due.same("split(0, 0)", due.rows.split(0, 0), RANGE);
    }

    private static void noFaultAndAnotherWhat() {
        Due.words("Several reasons", "the first in the order told counts: fault, NONE before the exception");
        Due due = new Due();
        Due.same("fault(0, 2)", due.fault(0, 2), NONE);
        Due.same("fault(-1, -1)", due.fault(-1, -1), NONE);
        Due.same("fault(0, 0)", due.fault(0, 0), Due.NO_SUCH_ELEMENT);
    }

    private static void missingBeforePastTheEnd() {
        Due.words("Several reasons", "the first in the order told counts: joined, STATE before NONE");
        Due due = ofBytes(2);
        Due.same("joined(2) without a TRANSFER", due.rows.joined(2), STATE);
        due.rows.split(0, 2);
        Due.same("joined(2) while a PIECE is missing", due.rows.joined(2), STATE);
        Due.same("joined(-1) while a PIECE is missing", due.rows.joined(-1), STATE);
        due.rows.piece(0, true);
        Due.same("joined(2)", due.rows.joined(2), NONE);
    }
}
