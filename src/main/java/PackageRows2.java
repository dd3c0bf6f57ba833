import java.util.NoSuchElementException;

/**
 * Packages of files: a manifest, checks on what comes, versions that share
 * what did not change, and transfers by pieces. The document's promises are
 * named by number at each method of the face.
 */
public final class PackageRows2 {
    public static final int NONE = -1;
    public static final int RANGE = -2;
    public static final int STATE = -3;
    public static final int FULL = -4;

    private static final int PATH_ROOM = 30;
    private static final int LONGEST_PATH = 24;
    private static final int MOST_BYTES = 40;
    private static final int MOST_COMING = 12;
    private static final int MOST_VERSIONS = 12;
    private static final int MOST_FILES = 8;
    private static final int LONGEST_PIECE = 100;
    private static final int LOWEST_EIGHT_BITS = 255;
    private static final int SUM_FACTOR = 65599;
    private static final int FAULTS_BASE = -10;

    private static final int LINE_TWICE = 1;
    private static final int NO_FILE_CAME = 2;
    private static final int OTHER_SIZE = 3;
    private static final int OTHER_SUM = 4;
    private static final int FILE_TWICE = 5;
    private static final int NO_LINE = 6;

    private final Row pathSigns;
    private final Row octets;
    private final Coming coming;
    private final Faults faults;
    private final Version[] versions;
    private int versionCount;
    private final Transfer transfer;

    /** Promise 1. */
    public PackageRows2() {
        pathSigns = new Row(PATH_ROOM);
        octets = new Row(MOST_BYTES);
        coming = new Coming();
        faults = new Faults();
        versions = new Version[MOST_VERSIONS];
        versionCount = 0;
        transfer = new Transfer();
    }

    /** Promise 2. */
    public void path(int c) {
        pathSigns.append(c & LOWEST_EIGHT_BITS);
    }

    /** Promise 3. */
    public void octet(int b) {
        octets.append(b & LOWEST_EIGHT_BITS);
    }

    /** Promise 4. */
    public int file() {
        int answer = coming.takeFile(pathSigns, octets);
        pathSigns.clear();
        octets.clear();
        return answer;
    }

    /** Promise 5. */
    public int line(int size, int sum) {
        int answer = coming.takeLine(pathSigns, size, sum);
        pathSigns.clear();
        return answer;
    }

    /** Promise 6. */
    public int sum() {
        return octets.sumOfBytes();
    }

    /** Promise 7. */
    public int check() {
        coming.tellFaults(faults);
        return faults.size();
    }

    /** Promise 8. The document tells the wrong 'what' before the missing fault. */
    public int fault(int i, int what) throws NoSuchElementException {
        if (what != 0 && what != 1) {
            return NONE;
        }
        if (!faults.has(i)) {
            throw new NoSuchElementException();
        }
        return what == 0 ? faults.kindOf(i) : faults.numberOf(i);
    }

    /** Promise 9. */
    public int accept() {
        coming.tellFaults(faults);
        if (faults.size() > 0) {
            return FAULTS_BASE - faults.size();
        }
        if (versionCount >= versions.length) {
            return STATE;
        }
        if (coming.fileCount() > MOST_FILES) {
            return FULL;
        }
        int number = versionCount;
        versions[number] = coming.toVersion(number, versionOrNull(number - 1));
        versionCount++;
        coming.clear();
        return number;
    }

    /** Promise 10. */
    public int drop() {
        int dropped = coming.fileCount() + coming.lineCount();
        coming.clear();
        return dropped;
    }

    /** Promise 11. */
    public int files(int version) {
        Version held = versionOrNull(version);
        return held == null ? NONE : held.size();
    }

    /** Promise 12. */
    public int about(int version, int i, int what) {
        Entry entry = entryOrNull(version, i);
        if (entry == null) {
            return NONE;
        }
        switch (what) {
            case 0:
                return entry.bytes.size();
            case 1:
                return entry.sumOfAll;
            case 2:
                return entry.name.size();
            case 3:
                return entry.firstVersion;
            default:
                return NONE;
        }
    }

    /** Promise 13. */
    public int sign(int version, int i, int k) {
        Entry entry = entryOrNull(version, i);
        return entry == null ? NONE : entry.name.cell(k);
    }

    /** Promise 14. */
    public int at(int version, int i, int k) throws ArrayIndexOutOfBoundsException {
        Entry entry = entryOrNull(version, i);
        if (entry == null) {
            return NONE;
        }
        if (!entry.bytes.has(k)) {
            throw new ArrayIndexOutOfBoundsException();
        }
        return entry.bytes.cell(k);
    }

    /** Promise 15. */
    public int find(int version) {
        Version held = versionOrNull(version);
        return held == null ? NONE : held.placeOf(pathSigns);
    }

    /** Promise 16. */
    public int same(int version, int other) {
        Version one = versionOrNull(version);
        Version two = versionOrNull(other);
        return one == null || two == null ? NONE : one.countAlike(two);
    }

    /** Promise 17. */
    public int split(int version, int length) {
        Version held = versionOrNull(version);
        return held == null ? NONE : transfer.begin(held, length);
    }

    /** Promise 18. */
    public int piece(int i, boolean unspoilt) {
        return transfer.take(i, unspoilt);
    }

    /** Promise 19. */
    public int missing() {
        return transfer.firstMissing();
    }

    /** Promise 20. */
    public int joined(int i) {
        return transfer.joinedByte(i);
    }

    private Version versionOrNull(int version) {
        return version < 0 || version >= versionCount ? null : versions[version];
    }

    private Entry entryOrNull(int version, int i) {
        Version held = versionOrNull(version);
        return held == null ? null : held.entryOrNull(i);
    }

    /** Signs or bytes in a row that has a fixed room and loses what comes beyond it. */
    private static final class Row {
        private final int[] cells;
        private int count;

        Row(int room) {
            cells = new int[Math.max(0, room)];
            count = 0;
        }

        void append(int cell) {
            if (count < cells.length) {
                cells[count] = cell;
                count++;
            }
        }

        void clear() {
            count = 0;
        }

        int size() {
            return count;
        }

        boolean has(int k) {
            return k >= 0 && k < count;
        }

        int cell(int k) {
            return has(k) ? cells[k] : NONE;
        }

        Row copy() {
            Row copied = new Row(count);
            for (int k = 0; k < count; k++) {
                copied.append(cells[k]);
            }
            return copied;
        }

        int sumOfBytes() {
            int total = 1;
            for (int k = 0; k < count; k++) {
                total = SUM_FACTOR * total + cells[k];
            }
            return total;
        }

        /** Below 0, 0 or above 0; a row that begins another one stands before it. */
        int order(Row other) {
            for (int k = 0; k < count && k < other.count; k++) {
                if (cells[k] != other.cells[k]) {
                    return cells[k] - other.cells[k];
                }
            }
            return count - other.count;
        }

        boolean alike(Row other) {
            return count == other.count && order(other) == 0;
        }
    }

    /** What makes signs a path. */
    private static final class PathRules {
        private PathRules() {
        }

        static boolean allow(Row signs) {
            int size = signs.size();
            if (size < 1 || size > LONGEST_PATH) {
                return false;
            }
            int partStart = 0;
            for (int k = 0; k < size; k++) {
                int c = signs.cell(k);
                if (c == '/') {
                    if (!allowPart(signs, partStart, k)) {
                        return false;
                    }
                    partStart = k + 1;
                } else if (!allowInPart(c)) {
                    return false;
                }
            }
            return allowPart(signs, partStart, size);
        }

        private static boolean allowInPart(int c) {
            return c >= 'a' && c <= 'z' || c >= '0' && c <= '9' || c == '.';
        }

        /** An empty part is what a / first, last or behind another one leaves. */
        private static boolean allowPart(Row signs, int from, int end) {
            int length = end - from;
            if (length == 1) {
                return signs.cell(from) != '.';
            }
            if (length == 2) {
                return signs.cell(from) != '.' || signs.cell(from + 1) != '.';
            }
            return length > 0;
        }
    }

    /** A file; versions that share it hold the same entry. */
    private static final class Entry {
        final Row name;
        final Row bytes;
        final int sumOfAll;
        int firstVersion;

        Entry(Row name, Row bytes) {
            this.name = name;
            this.bytes = bytes;
            this.sumOfAll = bytes.sumOfBytes();
            this.firstVersion = NONE;
        }
    }

    /** A line of the manifest. */
    private static final class Line {
        final Row name;
        final int toldSize;
        final int toldSum;

        Line(Row name, int toldSize, int toldSum) {
            this.name = name;
            this.toldSize = toldSize;
            this.toldSum = toldSum;
        }
    }

    /** The faults of the latest check. */
    private static final class Faults {
        private final int[] kinds;
        private final int[] numbers;
        private int count;

        Faults() {
            kinds = new int[2 * MOST_COMING];
            numbers = new int[2 * MOST_COMING];
            count = 0;
        }

        void clear() {
            count = 0;
        }

        /** A kind of 0 says that nothing is wrong. */
        void note(int kind, int number) {
            if (kind != 0 && count < kinds.length) {
                kinds[count] = kind;
                numbers[count] = number;
                count++;
            }
        }

        int size() {
            return count;
        }

        boolean has(int i) {
            return i >= 0 && i < count;
        }

        int kindOf(int i) {
            return has(i) ? kinds[i] : NONE;
        }

        int numberOf(int i) {
            return has(i) ? numbers[i] : NONE;
        }
    }

    /** The files and the lines that came since the last version or drop. */
    private static final class Coming {
        private final Entry[] entries;
        private int entryCount;
        private final Line[] lines;
        private int lineCount;

        Coming() {
            entries = new Entry[MOST_COMING];
            entryCount = 0;
            lines = new Line[MOST_COMING];
            lineCount = 0;
        }

        int fileCount() {
            return entryCount;
        }

        int lineCount() {
            return lineCount;
        }

        void clear() {
            entryCount = 0;
            lineCount = 0;
        }

        int takeFile(Row name, Row bytes) {
            if (!PathRules.allow(name)) {
                return RANGE;
            }
            if (entryCount >= entries.length) {
                return FULL;
            }
            entries[entryCount] = new Entry(name.copy(), bytes.copy());
            entryCount++;
            return entryCount;
        }

        int takeLine(Row name, int toldSize, int toldSum) {
            if (toldSize < 0 || toldSize > MOST_BYTES || !PathRules.allow(name)) {
                return RANGE;
            }
            if (lineCount >= lines.length) {
                return FULL;
            }
            lines[lineCount] = new Line(name.copy(), toldSize, toldSum);
            lineCount++;
            return lineCount;
        }

        void tellFaults(Faults faults) {
            faults.clear();
            for (int i = 0; i < lineCount; i++) {
                faults.note(faultOfLine(i), i);
            }
            for (int i = 0; i < entryCount; i++) {
                faults.note(faultOfFile(i), i);
            }
        }

        private int faultOfLine(int i) {
            Line told = lines[i];
            if (firstLine(told.name) < i) {
                return LINE_TWICE;
            }
            int place = firstFile(told.name);
            if (place >= entryCount) {
                return NO_FILE_CAME;
            }
            Entry came = entries[place];
            if (came.bytes.size() != told.toldSize) {
                return OTHER_SIZE;
            }
            return came.sumOfAll != told.toldSum ? OTHER_SUM : 0;
        }

        private int faultOfFile(int i) {
            Row name = entries[i].name;
            if (firstFile(name) < i) {
                return FILE_TWICE;
            }
            return firstLine(name) >= lineCount ? NO_LINE : 0;
        }

        /** The place of the first line with a path, or the count of lines. */
        private int firstLine(Row name) {
            int place = 0;
            while (place < lineCount && !lines[place].name.alike(name)) {
                place++;
            }
            return place;
        }

        /** The place of the first file with a path, or the count of files. */
        private int firstFile(Row name) {
            int place = 0;
            while (place < entryCount && !entries[place].name.alike(name)) {
                place++;
            }
            return place;
        }

        Version toVersion(int number, Version before) {
            Version made = new Version();
            for (int i = 0; i < entryCount; i++) {
                made.insert(sharedOrNew(entries[i], number, before));
            }
            return made;
        }

        private static Entry sharedOrNew(Entry came, int number, Version before) {
            Entry old = before == null ? null : before.entryOfPath(came.name);
            if (old != null && old.bytes.alike(came.bytes)) {
                return old;
            }
            came.firstVersion = number;
            return came;
        }
    }

    /** The files of a version, by paths. */
    private static final class Version {
        private final Entry[] entries;
        private int count;

        Version() {
            entries = new Entry[MOST_FILES];
            count = 0;
        }

        int size() {
            return count;
        }

        Entry entryOrNull(int i) {
            return i < 0 || i >= count ? null : entries[i];
        }

        void insert(Entry entry) {
            if (count >= entries.length) {
                return;
            }
            int place = count;
            while (place > 0 && entry.name.order(entries[place - 1].name) < 0) {
                entries[place] = entries[place - 1];
                place--;
            }
            entries[place] = entry;
            count++;
        }

        int placeOf(Row name) {
            for (int i = 0; i < count; i++) {
                if (entries[i].name.alike(name)) {
                    return i;
                }
            }
            return NONE;
        }

        Entry entryOfPath(Row name) {
            return entryOrNull(placeOf(name));
        }

        /** Shared files are alike too, so that alike bytes are all to look for. */
        int countAlike(Version other) {
            int alike = 0;
            for (int i = 0; i < count; i++) {
                Entry twin = other.entryOfPath(entries[i].name);
                if (twin != null && twin.bytes.alike(entries[i].bytes)) {
                    alike++;
                }
            }
            return alike;
        }

        int byteCount() {
            int total = 0;
            for (int i = 0; i < count; i++) {
                total += entries[i].bytes.size();
            }
            return total;
        }

        /** The byte at a place of all files one behind the other; NONE outside. */
        int byteInAll(int place) {
            int left = place;
            for (int i = 0; i < count; i++) {
                Row bytes = entries[i].bytes;
                if (left < bytes.size()) {
                    return bytes.cell(left);
                }
                left -= bytes.size();
            }
            return NONE;
        }
    }

    /** The latest transfer, if there was one. */
    private static final class Transfer {
        private Version source;
        private final boolean[] came;
        private int pieceCount;
        private int missingCount;

        Transfer() {
            source = null;
            came = new boolean[MOST_FILES * MOST_BYTES];
            pieceCount = 0;
            missingCount = 0;
        }

        int begin(Version version, int length) {
            if (length < 1 || length > LONGEST_PIECE) {
                return RANGE;
            }
            source = version;
            pieceCount = Math.min(came.length, (version.byteCount() + length - 1) / length);
            missingCount = pieceCount;
            for (int i = 0; i < pieceCount; i++) {
                came[i] = false;
            }
            return pieceCount;
        }

        int take(int i, boolean unspoilt) {
            if (i < 0 || i >= pieceCount) {
                return RANGE;
            }
            if (unspoilt && !came[i]) {
                came[i] = true;
                missingCount--;
            }
            return missingCount;
        }

        int firstMissing() {
            for (int i = 0; i < pieceCount; i++) {
                if (!came[i]) {
                    return i;
                }
            }
            return NONE;
        }

        int joinedByte(int i) {
            if (source == null || missingCount > 0) {
                return STATE;
            }
            return source.byteInAll(i);
        }
    }
}
