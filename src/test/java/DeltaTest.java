/** Promises 9 and 19: the delta and its counts. */
public final class DeltaTest {
    public static void main(String[] args) {
        literalsAlone();
        literalRows();
        leastAndNext();
        nothingBetween();
        referenceRows();
        highNumbers();
        manySums();
        dearestDelta();
        alarms();
        sumAloneIsNotEnough();
        narrowDigests();
        bySignatureAlone();
        madeAnew();
        countsWrongly();
        Due.end("DeltaTest");
    }

    private static DeltaSync signed(int size, int width, int[] old, int[] fresh) {
        DeltaSync x = new DeltaSync();
        Due.file(x, 0, old);
        Due.file(x, 1, fresh);
        x.shape(size, width);
        x.sign();
        return x;
    }

    private static void dueDelta(String what, DeltaSync x, int... want) {
        Due.due(what + ": delta()", x.delta(), want.length);
        Due.dueBytes(what, x, 2, want);
    }

    private static void dueCounts(String what, DeltaSync x, int... want) {
        for (int i = 0; i < want.length; i++) {
            Due.due(what + ": count(" + i + ")", x.count(i), want[i]);
        }
    }

    private static void literalsAlone() {
        dueDelta("empty new file", signed(2, 16, new int[] {1, 2}, new int[0]));
        DeltaSync x = signed(2, 16, new int[] {1, 2}, new int[] {2, 1, 3});
        dueDelta("literals", x, 0, 3, 2, 1, 3);
        dueCounts("literals", x, 0, 3, 1, 0, 1, 2, 16);
        // The new file ends before a block is whole.
        x = signed(3, 16, new int[] {1, 2, 3}, new int[] {1, 2});
        dueDelta("too short", x, 0, 2, 1, 2);
        x = signed(3, 16, new int[] {1, 2, 3}, new int[] {1, 2, 3, 1, 2});
        dueDelta("short end", x, 1, 0, 0, 1, 0, 2, 1, 2);
        // What is no whole block of the old file is in no signature.
        x = signed(3, 16, new int[] {1, 2, 3, 4, 5}, new int[] {4, 5, 1, 2, 3});
        dueDelta("the old one's end", x, 0, 2, 4, 5, 1, 0, 0, 1);
    }

    private static void literalRows() {
        for (int n : new int[] {254, 255, 256, 510, 511, 2000}) {
            DeltaSync x = signed(2, 16, new int[] {1, 2}, Due.repeated(9, n));
            int rows = (n + 254) / 255;
            Due.due(n + " literals: delta()", x.delta(), n + 2 * rows);
            dueCounts(n + " literals", x, 0, n, rows, 0);
            Due.due(n + " literals: at(2, 0)", x.at(2, 0), 0);
            Due.due(n + " literals: at(2, 1)", x.at(2, 1), Math.min(n, 255));
            if (rows > 1) {
                Due.due(n + " literals: at(2, 257)", x.at(2, 257), 0);
                Due.due(n + " literals: at(2, 258)", x.at(2, 258), Math.min(n - 255, 255));
            }
            Due.due(n + " literals: last byte", x.at(2, n + 2 * rows - 1), 9);
        }
    }

    private static void leastAndNext() {
        // Blocks: ab cd ab ab. The least is meant at first, then the one behind, then the least again.
        DeltaSync x = signed(2, 16, Due.bytes("abcdabab"), Due.bytes("ababcdabababab"));
        dueDelta("least and next", x, 1, 0, 0, 1, 1, 0, 0, 4, 1, 0, 0, 1, 1, 0, 0, 1);
        dueCounts("least and next", x, 7, 0, 4, 0, 4, 2, 16);
        // The one behind the last block of all is none.
        x = signed(1, 16, new int[] {5, 6}, new int[] {6, 5, 6, 6});
        dueDelta("behind the last", x, 1, 0, 1, 1, 1, 0, 0, 2, 1, 0, 1, 1);
    }

    private static void nothingBetween() {
        // Blocks: ab ab ab. A literal between makes the least number due again.
        DeltaSync x = signed(2, 16, Due.bytes("ababab"), Due.bytes("abxab"));
        dueDelta("a literal between", x, 1, 0, 0, 1, 0, 1, 'x', 1, 0, 0, 1);
        x = signed(2, 16, Due.bytes("ababab"), Due.bytes("ababxyabab"));
        dueDelta("two between", x, 1, 0, 0, 2, 0, 2, 'x', 'y', 1, 0, 0, 2);
        x = signed(2, 16, Due.bytes("ababcd"), Due.bytes("abxcd"));
        dueDelta("rising, but not together", x, 1, 0, 0, 1, 0, 1, 'x', 1, 0, 2, 1);
        // A rise by two is no row.
        x = signed(1, 16, new int[] {1, 2, 3}, new int[] {1, 3, 2, 1});
        dueDelta("by two, falling", x, 1, 0, 0, 1, 1, 0, 2, 1, 1, 0, 1, 1, 1, 0, 0, 1);
    }

    private static void referenceRows() {
        for (int n : new int[] {254, 255, 256, 510, 511}) {
            DeltaSync x = signed(1, 16, Due.repeated(4, 600), Due.repeated(4, n));
            int rows = (n + 254) / 255;
            Due.due(n + " references: delta()", x.delta(), 4 * rows);
            dueCounts(n + " references", x, n, 0, rows, 0, 600, 1, 16);
            for (int row = 0; row < rows; row++) {
                Due.due("row's kind", x.at(2, 4 * row), 1);
                Due.due("row's first", 256 * x.at(2, 4 * row + 1) + x.at(2, 4 * row + 2), 255 * row);
                Due.due("row's number", x.at(2, 4 * row + 3), Math.min(255, n - 255 * row));
            }
        }
    }

    private static void highNumbers() {
        int[] old = new int[1500];
        old[1400] = 77;
        DeltaSync x = signed(1, 16, old, new int[] {77, 0});
        dueDelta("high number", x, 1, 1400 >> 8, 1400 & 255, 2);
        x.apply();
        Due.due("high number: same()", x.same(), true);
    }

    // Blocks of many sums, told from the last to the first.
    private static void manySums() {
        int[] old = new int[1800];
        int[] fresh = new int[1800];
        for (int block = 0; block < 600; block++) {
            for (int k = 0; k < 3; k++) {
                old[3 * block + k] = k == 0 ? block & 255 : k == 1 ? 3 * (block >> 8) : 200 - k * block % 50;
                fresh[3 * (599 - block) + k] = old[3 * block + k];
            }
        }
        DeltaSync x = signed(3, 16, old, fresh);
        Due.due("many sums: delta()", x.delta(), 2400);
        dueCounts("many sums", x, 600, 0, 600, 0);
        for (int row = 0; row < 600; row++) {
            Due.due("many sums: block", 256 * x.at(2, 4 * row + 1) + x.at(2, 4 * row + 2), 599 - row);
        }
    }

    // The document's 6000 bytes bound push alone: a delta may be longer.
    private static void dearestDelta() {
        DeltaSync x = signed(1, 16, new int[] {1}, Due.repeated(1, 2000));
        Due.due("dearest: delta()", x.delta(), 8000);
        dueCounts("dearest", x, 2000, 0, 2000, 0);
        Due.due("dearest: last byte", x.at(2, 7999), 1);
        Due.due("dearest: push", x.push(0), false);
        Due.due("dearest: size(2)", x.size(2), 8000);
        Due.due("dearest: apply()", x.apply(), 2000);
        Due.due("dearest: same()", x.same(), true);
    }

    private static void alarms() {
        // 0 2 0 and 1 0 1 have one sum.
        DeltaSync x = signed(3, 16, new int[] {0, 2, 0}, new int[] {1, 0, 1, 1, 0, 1, 0, 2, 0});
        Due.due("one sum", x.sum(0), x.sumAt(1, 0, 3));
        dueDelta("alarms", x, 0, 6, 1, 0, 1, 1, 0, 1, 1, 0, 0, 1);
        dueCounts("alarms", x, 1, 6, 2, 2, 1, 3, 16);
        x.put(1, 0, 7);
        x.delta();
        dueCounts("one alarm less", x, 1, 6, 2, 1);
    }

    private static void sumAloneIsNotEnough() {
        // Blocks of one sum: the third has the digest, and nothing alarms where one of them has it.
        int[] old = {0, 4, 0, 1, 2, 1, 2, 0, 2, 2, 0, 2};
        DeltaSync x = signed(3, 16, old, new int[] {2, 0, 2, 2, 0, 2, 1, 2, 1});
        Due.due("one sum", x.sum(0) == x.sum(1) && x.sum(1) == x.sum(2), true);
        dueDelta("the third", x, 1, 0, 2, 2, 1, 0, 1, 1);
        dueCounts("the third", x, 3, 0, 2, 0);
        // The block behind has the sum, but another one has the digest.
        x = signed(3, 16, old, new int[] {1, 2, 1, 0, 4, 0});
        dueDelta("not the one behind", x, 1, 0, 1, 1, 1, 0, 0, 1);
    }

    // Of digests only the first w bytes count: two blocks of one sum and one first byte pass for each other.
    private static void narrowDigests() {
        int[][] pair = pairByFirstByte(true);
        DeltaSync x = signed(3, 1, pair[0], pair[1]);
        dueDelta("narrow", x, 1, 0, 0, 1);
        dueCounts("narrow", x, 1, 0, 1, 0, 1, 3, 1);
        Due.due("narrow: apply()", x.apply(), 3);
        Due.due("narrow: same()", x.same(), false);
        Due.dueBytes("narrow: result", x, 3, pair[0]);
        x = signed(3, 16, pair[0], pair[1]);
        dueDelta("wide", x, 0, 3, pair[1][0], pair[1][1], pair[1][2]);
        dueCounts("wide", x, 0, 3, 1, 1);
        pair = pairByFirstByte(false);
        x = signed(3, 1, pair[0], pair[1]);
        dueDelta("other first byte", x, 0, 3, pair[1][0], pair[1][1], pair[1][2]);
        dueCounts("other first byte", x, 0, 3, 1, 1);
    }

    private static int[][] pairByFirstByte(boolean alike) {
        for (int i = 0; i < 200 * 200; i++) {
            int[] one = {i % 200, 100, i / 200};
            int[] other = {one[0] + 1, 98, one[2] + 1};
            boolean first = Due.md5(one)[0] == Due.md5(other)[0];
            if (first == alike && Due.md5(one)[1] != Due.md5(other)[1]) {
                return new int[][] {one, other};
            }
        }
        throw new IllegalStateException("no such pair");
    }

    private static void bySignatureAlone() {
        DeltaSync x = signed(2, 4, Due.bytes("abcd"), Due.bytes("abcd"));
        x.put(0, 0, 'z');
        x.cut(0, 1);
        x.shape(1, 16);
        dueDelta("by the signature", x, 1, 0, 0, 2);
        dueCounts("by the signature", x, 2, 0, 1, 0, 2, 2, 4);
        Due.due("by the signature: apply()", x.apply(), DeltaSync.BAD);
    }

    private static void madeAnew() {
        DeltaSync x = signed(2, 4, Due.bytes("abcd"), Due.bytes("abxcd"));
        dueDelta("first", x, 1, 0, 0, 1, 0, 1, 'x', 1, 0, 1, 1);
        x.push(3);
        x.change(0, 9);
        dueDelta("again", x, 1, 0, 0, 1, 0, 1, 'x', 1, 0, 1, 1);
        dueCounts("again", x, 2, 1, 3, 0);
        x.keep(0);
        Due.file(x, 1, 1, 2);
        dueCounts("of the latest one", x, 2, 1, 3, 0);
        dueDelta("another", x, 0, 2, 1, 2);
        dueCounts("another", x, 0, 2, 1, 0);
        x.apply();
        Due.due("delta leaves the result", x.size(3), 2);
        x.cut(1, 0);
        dueDelta("of nothing", x);
        Due.due("delta leaves the result still", x.size(3), 2);
        dueCounts("of nothing", x, 0, 0, 0, 0);
    }

    private static void countsWrongly() {
        DeltaSync x = signed(2, 4, Due.bytes("abcd"), Due.bytes("abxcd"));
        x.delta();
        for (int what : new int[] {-1, 7, 8, Integer.MIN_VALUE, Integer.MAX_VALUE}) {
            Due.due("count(" + what + ")", x.count(what), DeltaSync.NONE);
        }
    }
}
