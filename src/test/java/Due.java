import java.util.NoSuchElementException;

/** What the tests share: a package under test, ways to feed it, and a count of wrong answers. */
final class Due {
    /** Stands for a NoSuchElementException where an answer is compared; no answer of fault() is as low. */
    static final int NO_SUCH_ELEMENT = -1001;
    /** Stands for an ArrayIndexOutOfBoundsException; no answer of at() is as low. */
    static final int OUT_OF_BOUNDS = -1002;
    /** Stands for an exception that is of another class, or thrown by the machine itself. */
    static final int ANOTHER_THROW = -1003;

    /** Two rows of bytes of one size and one SUM: only the bytes tell them apart. */
    static final int[] TWIN_ONE = {191, 110, 21, 192, 227};
    static final int[] TWIN_TWO = {106, 46, 118, 44, 131};
    static final int TWIN_SUM = -863212856;

    private static int asked = 0;
    private static int wrong = 0;
    private static String words = "";
    private static int askedBeforeWords = -1;

    final PackageRows2 rows = new PackageRows2();

    /** Begins the test of one sentence: its words are printed with each answer that is not as due. */
    static void words(String where, String sentence) {
        lookThatWordsWereAsked();
        words = where + ", \"" + sentence + "\": ";
        askedBeforeWords = asked;
    }

    /** A sentence without a question would pass whatever the class does. */
    private static void lookThatWordsWereAsked() {
        if (asked == askedBeforeWords) {
            wrong++;
            System.out.println(words + "nothing is asked");
        }
    }

    static void same(String call, long got, long want) {
        asked++;
        if (got != want) {
            wrong++;
            System.out.println(words + call + " answered " + got + ", due is " + want);
        }
    }

    static void end() {
        lookThatWordsWereAsked();
        System.out.println(asked + " answers, " + wrong + " not as due");
        if (wrong != 0 || asked == 0) {
            System.exit(1);
        }
    }

    static int sumOf(int... bytes) {
        long total = 1;
        for (int b : bytes) {
            total = (total * 65599 + b) % (1L << 32);
        }
        return (int) total;
    }

    static int[] repeat(int count, int value) {
        int[] bytes = new int[count];
        java.util.Arrays.fill(bytes, value);
        return bytes;
    }

    /** A package of so many empty versions. */
    static Due withVersions(int count) {
        Due due = new Due();
        for (int v = 0; v < count; v++) {
            due.rows.accept();
        }
        return due;
    }

    /** So many files that came with the lines that fit them; file i is of the byte i. */
    static Due withFiles(int count) {
        Due due = new Due();
        for (int i = 0; i < count; i++) {
            due.both("f" + (char) ('a' + i), i);
        }
        return due;
    }

    Due path(String path) {
        for (char c : path.toCharArray()) {
            rows.path(c);
        }
        return this;
    }

    Due bytes(int... bytes) {
        for (int b : bytes) {
            rows.octet(b);
        }
        return this;
    }

    int file(String path, int... bytes) {
        return path(path).bytes(bytes).rows.file();
    }

    int line(String path, int size, int sum) {
        return path(path).rows.line(size, sum);
    }

    /** A file and the line that fits it. */
    void both(String path, int... bytes) {
        file(path, bytes);
        line(path, bytes.length, sumOf(bytes));
    }

    int find(int version, String path) {
        int place = path(path).rows.find(version);
        rows.line(-1, 0);
        return place;
    }

    int fault(int i, int what) {
        try {
            return rows.fault(i, what);
        } catch (RuntimeException e) {
            return e.getClass() == NoSuchElementException.class ? NO_SUCH_ELEMENT : ANOTHER_THROW;
        }
    }

    int at(int version, int i, int k) {
        try {
            return rows.at(version, i, k);
        } catch (RuntimeException e) {
            // The machine gives its own ones a message; the class throws without one.
            boolean thrown = e.getClass() == ArrayIndexOutOfBoundsException.class && e.getMessage() == null;
            return thrown ? OUT_OF_BOUNDS : ANOTHER_THROW;
        }
    }

    /** The faults of the latest check as kind and number in turn, and that there is none behind them. */
    void faults(String of, int... kindsAndNumbers) {
        int count = kindsAndNumbers.length / 2;
        for (int i = 0; i < count; i++) {
            same(of + ": fault(" + i + ", 0)", fault(i, 0), kindsAndNumbers[2 * i]);
            same(of + ": fault(" + i + ", 1)", fault(i, 1), kindsAndNumbers[2 * i + 1]);
        }
        same(of + ": fault(" + count + ", 0)", fault(count, 0), NO_SUCH_ELEMENT);
        same(of + ": fault(" + count + ", 1)", fault(count, 1), NO_SUCH_ELEMENT);
    }
}
