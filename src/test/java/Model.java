import java.util.ArrayList;
import java.util.Arrays;
import java.util.List;

/** The document once more, in the slowest and plainest way, with the library's MD5. */
final class Model {
    private final List<List<Integer>> rows = new ArrayList<>();
    private int size = 16;
    private int width = 8;
    private int signedSize = 16;
    private int signedWidth = 8;
    private final List<Integer> signedSums = new ArrayList<>();
    private final List<int[]> signedDigests = new ArrayList<>();
    private final int[] counts = new int[4];

    Model() {
        for (int i = 0; i < 4; i++) {
            rows.add(new ArrayList<>());
        }
    }

    int feed(int file, int v) {
        if (!isFile(file) || rows.get(file).size() + 4 > 2000) {
            return -1;
        }
        for (int k = 3; k >= 0; k--) {
            rows.get(file).add((v >> (8 * k)) & 255);
        }
        return rows.get(file).size();
    }

    boolean cut(int file, int n) {
        return isFile(file) && shorten(rows.get(file), n);
    }

    boolean put(int file, int i, int b) {
        return isFile(file) && set(rows.get(file), i, b);
    }

    boolean shape(int newSize, int newWidth) {
        boolean good = 1 <= newSize && newSize <= 256 && 1 <= newWidth && newWidth <= 16;
        size = good ? newSize : size;
        width = good ? newWidth : width;
        return good;
    }

    int sign() {
        signedSums.clear();
        signedDigests.clear();
        for (int k = 0; (k + 1) * size <= rows.get(0).size(); k++) {
            List<Integer> block = rows.get(0).subList(k * size, (k + 1) * size);
            signedSums.add(sumOf(block));
            signedDigests.add(digestOf(block));
        }
        signedSize = size;
        signedWidth = width;
        return signedSums.size();
    }

    int sum(int block) {
        return block < 0 || block >= signedSums.size() ? 0 : signedSums.get(block);
    }

    int digest(int block, int k) {
        boolean there = block >= 0 && block < signedSums.size() && k >= 0 && k < signedWidth;
        return there ? signedDigests.get(block)[k] : -1;
    }

    int delta() {
        Arrays.fill(counts, 0);
        List<Integer> from = rows.get(1);
        // Items: a literal as -1 - its byte, a reference as its block.
        List<Integer> items = new ArrayList<>();
        int p = 0;
        while (p < from.size()) {
            int last = items.isEmpty() ? -1 : items.get(items.size() - 1);
            int block = p + signedSize <= from.size() ? match(from.subList(p, p + signedSize), last) : -1;
            items.add(block >= 0 ? block : -1 - from.get(p));
            counts[block >= 0 ? 0 : 1]++;
            p += block >= 0 ? signedSize : 1;
        }
        List<Integer> out = rows.get(2);
        out.clear();
        int i = 0;
        while (i < items.size()) {
            int n = together(items, i);
            counts[2]++;
            if (items.get(i) < 0) {
                out.addAll(List.of(0, n));
                for (int k = 0; k < n; k++) {
                    out.add(-1 - items.get(i + k));
                }
            } else {
                out.addAll(List.of(1, items.get(i) / 256, items.get(i) % 256, n));
            }
            i += n;
        }
        return out.size();
    }

    private static int together(List<Integer> items, int i) {
        int n = 1;
        while (n < 255 && i + n < items.size()) {
            boolean literals = items.get(i) < 0 && items.get(i + n) < 0;
            boolean rising = items.get(i) >= 0 && items.get(i + n) == items.get(i) + n;
            if (!literals && !rising) {
                break;
            }
            n++;
        }
        return n;
    }

    private int match(List<Integer> bytes, int last) {
        int[] digest = null;
        int best = -1;
        int sum = sumOf(bytes);
        for (int k = 0; k < signedSums.size(); k++) {
            if (signedSums.get(k) != sum) {
                continue;
            }
            digest = digest == null ? digestOf(bytes) : digest;
            if (Arrays.equals(digest, 0, signedWidth, signedDigests.get(k), 0, signedWidth)) {
                best = best < 0 || last >= 0 && k == last + 1 ? k : best;
            }
        }
        if (digest != null && best < 0) {
            counts[3]++;
        }
        return best;
    }

    int apply() {
        rows.get(3).clear();
        List<Integer> made = new ArrayList<>();
        List<Integer> in = new ArrayList<>(rows.get(2));
        while (!in.isEmpty()) {
            int head = in.get(0) == 0 ? 2 : 4;
            if (in.get(0) > 1 || in.size() < head || in.get(head - 1) == 0) {
                return -2;
            }
            int n = in.get(head - 1);
            List<Integer> from = head == 2 ? in : rows.get(0);
            int start = head == 2 ? 2 : (in.get(1) * 256 + in.get(2)) * signedSize;
            int end = start + (head == 2 ? n : n * signedSize);
            if (end > from.size()) {
                return -2;
            }
            made.addAll(from.subList(start, end));
            in = new ArrayList<>(in.subList(head == 2 ? end : 4, in.size()));
            if (made.size() > 2000) {
                return -2;
            }
        }
        rows.get(3).addAll(made);
        return made.size();
    }

    int at(int which, int i) {
        return which < 0 || which > 3 || i < 0 || i >= rows.get(which).size() ? -1 : rows.get(which).get(i);
    }

    int size(int which) {
        return which < 0 || which > 3 ? -1 : rows.get(which).size();
    }

    boolean change(int i, int b) {
        return set(rows.get(2), i, b);
    }

    boolean push(int b) {
        return rows.get(2).size() < 6000 && b >= 0 && b <= 255 && rows.get(2).add(b);
    }

    boolean keep(int n) {
        return shorten(rows.get(2), n);
    }

    int sumAt(int file, int i, int n) {
        boolean there = isFile(file) && i >= 0 && n >= 0 && (long) i + n <= rows.get(file).size();
        return there ? sumOf(rows.get(file).subList(i, i + n)) : 0;
    }

    int md5(int file, int k) {
        return isFile(file) && k >= 0 && k <= 15 ? digestOf(rows.get(file))[k] : -1;
    }

    boolean same() {
        return rows.get(3).equals(rows.get(1));
    }

    int count(int what) {
        int[] all = {counts[0], counts[1], counts[2], counts[3], signedSums.size(), signedSize, signedWidth};
        return what < 0 || what >= all.length ? -1 : all[what];
    }

    private static boolean isFile(int file) {
        return file == 0 || file == 1;
    }

    private static boolean shorten(List<Integer> row, int n) {
        boolean good = n >= 0 && n <= row.size();
        if (good) {
            row.subList(n, row.size()).clear();
        }
        return good;
    }

    private static boolean set(List<Integer> row, int i, int b) {
        boolean good = i >= 0 && i < row.size() && b >= 0 && b <= 255;
        if (good) {
            row.set(i, b);
        }
        return good;
    }

    private static int sumOf(List<Integer> bytes) {
        long a = 0;
        long b = 0;
        int n = bytes.size();
        for (int i = 0; i < n; i++) {
            a += bytes.get(i);
            b += (long) (n - i) * bytes.get(i);
        }
        return (int) (65536 * (b % 65536) + a % 65536);
    }

    private static int[] digestOf(List<Integer> bytes) {
        return Due.md5(bytes.stream().mapToInt(Integer::intValue).toArray());
    }
}
