import java.util.ArrayList;
import java.util.Arrays;
import java.util.HashMap;
import java.util.HashSet;
import java.util.List;
import java.util.Map;
import java.util.NoSuchElementException;
import java.util.Set;
import java.util.TreeMap;

/** The document once more, told with the Java library and in no hurry, to compare PackageRows2 with. */
final class Model {
    private record Came(String path, List<Integer> bytes) { }

    private record Told(String path, int size, int sum) { }

    private static final class Kept {
        final List<Integer> bytes;
        final int first;

        Kept(List<Integer> bytes, int first) {
            this.bytes = bytes;
            this.first = first;
        }
    }

    private String signs = "";
    private List<Integer> octets = new ArrayList<>();
    private final List<Came> came = new ArrayList<>();
    private final List<Told> told = new ArrayList<>();
    private final List<int[]> faults = new ArrayList<>();
    private final List<TreeMap<String, Kept>> versions = new ArrayList<>();
    private List<Integer> transfer = null;
    private Set<Integer> missing = new HashSet<>();
    private int pieces = 0;

    private static int sumOf(List<Integer> bytes) {
        return Due.sumOf(bytes.stream().mapToInt(Integer::intValue).toArray());
    }

    private static boolean isPath(String text) {
        if (text.length() > 24 || !text.matches("[a-z0-9.]+(/[a-z0-9.]+)*")) {
            return false;
        }
        List<String> parts = Arrays.asList(text.split("/"));
        return !parts.contains(".") && !parts.contains("..");
    }

    void path(int c) {
        if (signs.length() < 30) {
            signs += (char) Math.floorMod(c, 256);
        }
    }

    void octet(int b) {
        if (octets.size() < 40) {
            octets.add(Math.floorMod(b, 256));
        }
    }

    int file() {
        Came next = new Came(signs, octets);
        signs = "";
        octets = new ArrayList<>();
        if (!isPath(next.path)) {
            return -2;
        }
        if (came.size() == 12) {
            return -4;
        }
        came.add(next);
        return came.size();
    }

    int line(int size, int sum) {
        Told next = new Told(signs, size, sum);
        signs = "";
        if (!isPath(next.path) || size < 0 || size > 40) {
            return -2;
        }
        if (told.size() == 12) {
            return -4;
        }
        told.add(next);
        return told.size();
    }

    int sum() {
        return sumOf(octets);
    }

    int check() {
        faults.clear();
        Map<String, Came> firsts = new HashMap<>();
        came.forEach(c -> firsts.putIfAbsent(c.path, c));
        Set<String> toldPaths = new HashSet<>();
        for (int i = 0; i < told.size(); i++) {
            Told t = told.get(i);
            Came c = firsts.get(t.path);
            int kind = !toldPaths.add(t.path) ? 1
                : c == null ? 2
                : c.bytes.size() != t.size ? 3
                : sumOf(c.bytes) != t.sum ? 4 : 0;
            if (kind != 0) {
                faults.add(new int[] {kind, i});
            }
        }
        Set<String> camePaths = new HashSet<>();
        for (int i = 0; i < came.size(); i++) {
            String path = came.get(i).path;
            int kind = !camePaths.add(path) ? 5 : !toldPaths.contains(path) ? 6 : 0;
            if (kind != 0) {
                faults.add(new int[] {kind, i});
            }
        }
        return faults.size();
    }

    int fault(int i, int what) {
        if (what < 0 || what > 1) {
            return -1;
        }
        if (i < 0 || i >= faults.size()) {
            throw new NoSuchElementException();
        }
        return faults.get(i)[what];
    }

    int accept() {
        if (check() > 0) {
            return -10 - faults.size();
        }
        if (versions.size() == 12) {
            return -3;
        }
        if (came.size() > 8) {
            return -4;
        }
        int number = versions.size();
        TreeMap<String, Kept> next = new TreeMap<>();
        for (Came c : came) {
            Kept old = number == 0 ? null : versions.get(number - 1).get(c.path);
            boolean shares = old != null && old.bytes.equals(c.bytes);
            next.put(c.path, new Kept(c.bytes, shares ? old.first : number));
        }
        versions.add(next);
        came.clear();
        told.clear();
        return number;
    }

    int drop() {
        int count = came.size() + told.size();
        came.clear();
        told.clear();
        return count;
    }

    private boolean hasVersion(int version) {
        return version >= 0 && version < versions.size();
    }

    private String pathAt(int version, int i) {
        if (!hasVersion(version) || i < 0 || i >= versions.get(version).size()) {
            return null;
        }
        return new ArrayList<>(versions.get(version).keySet()).get(i);
    }

    int files(int version) {
        return hasVersion(version) ? versions.get(version).size() : -1;
    }

    int about(int version, int i, int what) {
        String path = pathAt(version, i);
        if (path == null || what < 0 || what > 3) {
            return -1;
        }
        Kept kept = versions.get(version).get(path);
        return new int[] {kept.bytes.size(), sumOf(kept.bytes), path.length(), kept.first}[what];
    }

    int sign(int version, int i, int k) {
        String path = pathAt(version, i);
        return path == null || k < 0 || k >= path.length() ? -1 : path.charAt(k);
    }

    int at(int version, int i, int k) {
        String path = pathAt(version, i);
        if (path == null) {
            return -1;
        }
        List<Integer> bytes = versions.get(version).get(path).bytes;
        if (k < 0 || k >= bytes.size()) {
            throw new ArrayIndexOutOfBoundsException();
        }
        return bytes.get(k);
    }

    int find(int version) {
        return hasVersion(version) ? new ArrayList<>(versions.get(version).keySet()).indexOf(signs) : -1;
    }

    int same(int version, int other) {
        if (!hasVersion(version) || !hasVersion(other)) {
            return -1;
        }
        int count = 0;
        for (Map.Entry<String, Kept> entry : versions.get(version).entrySet()) {
            Kept twin = versions.get(other).get(entry.getKey());
            count += twin != null && twin.bytes.equals(entry.getValue().bytes) ? 1 : 0;
        }
        return count;
    }

    int split(int version, int length) {
        if (!hasVersion(version)) {
            return -1;
        }
        if (length < 1 || length > 100) {
            return -2;
        }
        transfer = new ArrayList<>();
        versions.get(version).values().forEach(kept -> transfer.addAll(kept.bytes));
        missing = new HashSet<>();
        for (int start = 0; start < transfer.size(); start += length) {
            missing.add(start / length);
        }
        pieces = missing.size();
        return pieces;
    }

    int piece(int i, boolean unspoilt) {
        if (transfer == null || i < 0 || i >= pieces) {
            return -2;
        }
        if (unspoilt) {
            missing.remove(i);
        }
        return missing.size();
    }

    int missing() {
        return missing.stream().mapToInt(Integer::intValue).min().orElse(-1);
    }

    int joined(int i) {
        if (transfer == null || !missing.isEmpty()) {
            return -3;
        }
        return i < 0 || i >= transfer.size() ? -1 : transfer.get(i);
    }
}
