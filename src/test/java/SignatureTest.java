/** Promises 5 to 8 and 17: shapes, the signature, and digests of whole files. */
public final class SignatureTest {
    public static void main(String[] args) {
        shapes();
        blocksOfAllSizes();
        asItWasMade();
        wholeFiles();
        Due.end("SignatureTest");
    }

    private static void shapes() {
        Counted x = new Counted();
        Due.file(x, 0, Due.repeated(3, 300));
        int[][] wrong = {
            {0, 8}, {257, 8}, {-1, 8}, {16, 0}, {16, 17}, {16, -1}, {Integer.MIN_VALUE, 1}, {Integer.MAX_VALUE, 1},
            {1, Integer.MIN_VALUE}, {1, Integer.MAX_VALUE}, {5, 0}, {0, 5}
        };
        for (int[] w : wrong) {
            Due.due("shape(" + w[0] + ", " + w[1] + ")", x.shape(w[0], w[1]), false);
        }
        x.sign();
        Due.due("size after wrong shapes", x.count(5), 16);
        Due.due("width after wrong shapes", x.count(6), 8);
        for (int[] right : new int[][] {{1, 1}, {256, 16}, {1, 16}, {256, 1}}) {
            Due.due("shape(" + right[0] + ", " + right[1] + ")", x.shape(right[0], right[1]), true);
            Due.due("sign()", x.sign(), 300 / right[0]);
            Due.due("count(4)", x.count(4), 300 / right[0]);
            Due.due("count(5)", x.count(5), right[0]);
            Due.due("count(6)", x.count(6), right[1]);
        }
    }

    private static void blocksOfAllSizes() {
        int[] all = Due.mixed(700);
        for (int size = 1; size <= 256; size++) {
            int width = 1 + size % 16;
            Counted x = signed(all, size, width);
            for (int block = 0; block < 700 / size; block++) {
                x = x.left() < 30 ? signed(all, size, width) : x;
                dueBlock(x, block, Due.part(all, block * size, size), width);
            }
            for (int block : new int[] {700 / size, -1, Integer.MIN_VALUE, Integer.MAX_VALUE}) {
                Due.due("sum(" + block + ")", x.sum(block), 0);
                Due.due("digest(" + block + ", 0)", x.digest(block, 0), DeltaSync.NONE);
            }
        }
    }

    private static Counted signed(int[] old, int size, int width) {
        Counted x = new Counted();
        Due.feed(x, 0, old);
        x.shape(size, width);
        Due.due("sign()", x.sign(), old.length / size);
        return x;
    }

    private static void dueBlock(Counted x, int block, int[] bytes, int width) {
        Due.due("sum(" + block + ")", x.sum(block), Due.sumOf(bytes));
        int[] digest = Due.md5(bytes);
        for (int k = 0; k < width; k++) {
            Due.due("digest(" + block + ", " + k + ")", x.digest(block, k), digest[k]);
        }
        for (int k : new int[] {width, -1, 16, Integer.MIN_VALUE, Integer.MAX_VALUE}) {
            Due.due("digest(" + block + ", " + k + ")", x.digest(block, k), DeltaSync.NONE);
        }
    }

    // Later files and shapes leave the signature alone until it is made again.
    private static void asItWasMade() {
        Counted x = new Counted();
        Due.file(x, 0, Due.bytes("abcdabcdxx"));
        x.shape(4, 3);
        Due.due("sign()", x.sign(), 2);
        x.shape(2, 16);
        x.put(0, 0, 0);
        x.cut(0, 3);
        Due.due("sum(0)", x.sum(0), 64225674);
        Due.due("sum(1)", x.sum(1), 64225674);
        Due.due("digest(1, 2)", x.digest(1, 2), Due.md5(Due.bytes("abcd"))[2]);
        Due.due("digest(1, 3)", x.digest(1, 3), DeltaSync.NONE);
        Due.due("count(4)", x.count(4), 2);
        Due.due("count(5)", x.count(5), 4);
        Due.due("count(6)", x.count(6), 3);
        Due.due("sign() again", x.sign(), 1);
        Due.due("sum(0) again", x.sum(0), 65536 * 98 + 98);
        Due.due("sum(1) again", x.sum(1), 0);
        Due.due("digest(0, 15) again", x.digest(0, 15), Due.md5(0, 98)[15]);
        x.cut(0, 1);
        Due.due("sign() of too few bytes", x.sign(), 0);
        Due.due("sum(0) of no block", x.sum(0), 0);
    }

    private static void wholeFiles() {
        int[] lengths = {0, 1, 3, 54, 55, 56, 57, 63, 64, 65, 119, 120, 121, 127, 128, 129, 1000, 1999, 2000};
        for (int n : lengths) {
            int[] all = new int[n];
            for (int i = 0; i < n; i++) {
                all[i] = (255 - i * 13) & 255;
            }
            dueDigest(n & 1, all);
        }
        Counted x = new Counted();
        int[][] wrong = {{2, 0}, {3, 0}, {-1, 0}, {0, 16}, {0, -1}, {1, Integer.MAX_VALUE}, {1, Integer.MIN_VALUE}};
        for (int[] w : wrong) {
            Due.due("md5(" + w[0] + ", " + w[1] + ")", x.md5(w[0], w[1]), DeltaSync.NONE);
        }
    }

    private static void dueDigest(int file, int[] all) {
        int[] want = Due.md5(all);
        Counted x = new Counted();
        Due.feed(x, file, all);
        for (int k = 0; k < 16; k++) {
            if (x.left() == 0) {
                x = new Counted();
                Due.feed(x, file, all);
            }
            Due.due("md5 of " + all.length + ", byte " + k, x.md5(file, k), want[k]);
        }
    }
}
