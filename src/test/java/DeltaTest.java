/** Promises 9 and 19: the delta and its counts. */
public final class DeltaTest {
    public static void main(String[] args) {
        literalsAlone();
        literalRows();
        leastAndNext();
        nothingBetween();
        referenceRows();
        highNumbers();
        manySums();
        dearestDelta();
        alarms();
        sumAloneIsNotEnough();
        narrowDigests();
        bySignatureAlone();
        madeAnew();
        countsWrongly();
        Due.end("DeltaTest");
    }

    private static void dueDelta(String what, Counted x, int... want) {
        Due.due(what + ": delta()", x.delta(), want.length);
        Due.dueBytes(what, x, 2, want);
    }

    private static void literalsAlone() {
        dueDelta("empty new file", Due.signed(2, 16, new int[] {1, 2}, new int[0]));
        Counted x = Due.signed(2, 16, new int[] {1, 2}, new int[] {2, 1, 3});
        dueDelta("literals", x, 0, 3, 2, 1, 3);
        Due.dueCounts("literals", x, 0, 3, 1, 0, 1, 2, 16);
        // The new file ends before a block is whole.
        x = Due.signed(3, 16, new int[] {1, 2, 3}, new int[] {1, 2});
        dueDelta("too short", x, 0, 2, 1, 2);
        x = Due.signed(3, 16, new int[] {1, 2, 3}, new int[] {1, 2, 3, 1, 2});
        dueDelta("short end", x, 1, 0, 0, 1, 0, 2, 1, 2);
        // What is no whole block of the old file is in no signature.
        x = Due.signed(3, 16, new int[] {1, 2, 3, 4, 5}, new int[] {4, 5, 1, 2, 3});
        dueDelta("the old one's end", x, 0, 2, 4, 5, 1, 0, 0, 1);
    }

    private static void literalRows() {
        for (int n : new int[] {254, 255, 256, 510, 511, 2000}) {
            int[] fresh = Due.repeated(9, n);
            int[] want = new int[0];
            for (int from = 0; from < n; from += 255) {
                int many = Math.min(255, n - from);
                want = Due.joined(want, new int[] {0, many}, Due.part(fresh, from, many));
            }
            int[] old = {1, 2, 3, 4};
            Due.dueLongBytes(n + " literals", () -> Due.told(2, 16, old, fresh), 2, want);
            Due.dueCounts(n + " literals", Due.told(2, 16, old, fresh), 0, n, (n + 254) / 255, 0);
        }
    }

    private static void leastAndNext() {
        // Blocks: ab cd ab ab. The least is meant at first, then the one behind, then the least again.
        Counted x = Due.signed(2, 16, Due.bytes("abcdabab"), Due.bytes("ababcdabababab"));
        dueDelta("least and next", x, 1, 0, 0, 1, 1, 0, 0, 4, 1, 0, 0, 1, 1, 0, 0, 1);
        Due.dueCounts("least and next", x, 7, 0, 4, 0, 4, 2, 16);
        // The one behind the last block of all is none.
        x = Due.signed(1, 16, new int[] {5, 6}, new int[] {6, 5, 6, 6});
        dueDelta("behind the last", x, 1, 0, 1, 1, 1, 0, 0, 2, 1, 0, 1, 1);
    }

    private static void nothingBetween() {
        // Blocks: ab ab ab. A literal between makes the least number due again.
        Counted x = Due.signed(2, 16, Due.bytes("ababab"), Due.bytes("abxab"));
        dueDelta("a literal between", x, 1, 0, 0, 1, 0, 1, 'x', 1, 0, 0, 1);
        x = Due.signed(2, 16, Due.bytes("ababab"), Due.bytes("ababxyabab"));
        dueDelta("two between", x, 1, 0, 0, 2, 0, 2, 'x', 'y', 1, 0, 0, 2);
        x = Due.signed(2, 16, Due.bytes("ababcd"), Due.bytes("abxcd"));
        dueDelta("rising, but not together", x, 1, 0, 0, 1, 0, 1, 'x', 1, 0, 2, 1);
        // A rise by two is no row.
        x = Due.signed(1, 16, new int[] {1, 2, 3}, new int[] {1, 3, 2, 1});
        dueDelta("by two, falling", x, 1, 0, 0, 1, 1, 0, 2, 1, 1, 0, 1, 1, 1, 0, 0, 1);
    }

    private static void referenceRows() {
        for (int n : new int[] {254, 255, 256, 510, 511}) {
            Counted x = Due.signed(1, 16, Due.repeated(4, 600), Due.repeated(4, n));
            int rows = (n + 254) / 255;
            Due.due(n + " references: delta()", x.delta(), 4 * rows);
            Due.dueCounts(n + " references", x, n, 0, rows, 0, 600, 1, 16);
            for (int row = 0; row < rows; row++) {
                Due.due("row's kind", x.at(2, 4 * row), 1);
                Due.due("row's first", 256 * x.at(2, 4 * row + 1) + x.at(2, 4 * row + 2), 255 * row);
                Due.due("row's number", x.at(2, 4 * row + 3), Math.min(255, n - 255 * row));
            }
        }
    }

    private static void highNumbers() {
        int[] old = new int[1500];
        old[1400] = 77;
        Counted x = Due.signed(1, 16, old, new int[] {77, 0});
        dueDelta("high number", x, 1, 1400 >> 8, 1400 & 255, 2);
        x.apply();
        Due.due("high number: same()", x.same(), true);
    }

    // Blocks of many sums, told from the last to the first.
    private static void manySums() {
        int blocks = 300;
        int[] old = new int[3 * blocks];
        int[] fresh = new int[old.length];
        int[] want = new int[4 * blocks];
        for (int block = 0; block < blocks; block++) {
            int turned = blocks - 1 - block;
            for (int k = 0; k < 3; k++) {
                old[3 * block + k] = k == 0 ? block & 255 : k == 1 ? 3 * (block >> 8) : 200 - k * block % 50;
                fresh[3 * turned + k] = old[3 * block + k];
            }
            System.arraycopy(new int[] {1, block >> 8, block & 255, 1}, 0, want, 4 * turned, 4);
        }
        Due.dueLongBytes("many sums", () -> Due.told(3, 16, old, fresh), 2, want);
        Due.dueCounts("many sums", Due.told(3, 16, old, fresh), blocks, 0, blocks, 0);
    }

    // The document's 6000 bytes bound push alone: a delta may be longer.
    private static void dearestDelta() {
        int[] old = {1, 2, 1, 2};
        int[] fresh = Due.repeated(1, 2000);
        Counted x = Due.signed(1, 16, old, fresh);
        Due.due("dearest: delta()", x.delta(), 8000);
        Due.dueCounts("dearest", x, 2000, 0, 2000, 0);
        Due.due("dearest: push", x.push(0), false);
        Due.due("dearest: size(2)", x.size(2), 8000);
        x = Due.told(1, 16, old, fresh);
        Due.due("dearest: last byte", x.at(2, 7999), 1);
        Due.due("dearest: apply()", x.apply(), 2000);
        Due.due("dearest: same()", x.same(), true);
    }

    private static void alarms() {
        // 0 2 0 and 1 0 1 have one sum.
        Counted x = Due.signed(3, 16, new int[] {0, 2, 0}, new int[] {1, 0, 1, 1, 0, 1, 0, 2, 0});
        Due.due("one sum", x.sum(0), x.sumAt(1, 0, 3));
        dueDelta("alarms", x, 0, 6, 1, 0, 1, 1, 0, 1, 1, 0, 0, 1);
        Due.dueCounts("alarms", x, 1, 6, 2, 2, 1, 3, 16);
        x.put(1, 0, 7);
        x.delta();
        Due.dueCounts("one alarm less", x, 1, 6, 2, 1);
    }

    private static void sumAloneIsNotEnough() {
        // Blocks of one sum: the third has the digest, and nothing alarms where one of them has it.
        int[] old = {0, 4, 0, 1, 2, 1, 2, 0, 2, 2, 0, 2};
        Counted x = Due.signed(3, 16, old, new int[] {2, 0, 2, 2, 0, 2, 1, 2, 1});
        Due.due("one sum", x.sum(0) == x.sum(1) && x.sum(1) == x.sum(2), true);
        dueDelta("the third", x, 1, 0, 2, 2, 1, 0, 1, 1);
        Due.dueCounts("the third", x, 3, 0, 2, 0);
        // The block behind has the sum, but another one has the digest.
        x = Due.signed(3, 16, old, new int[] {1, 2, 1, 0, 4, 0});
        dueDelta("not the one behind", x, 1, 0, 1, 1, 1, 0, 0, 1);
    }

    // Of digests only the first w bytes count: two blocks of one sum and one first byte pass for each other.
    private static void narrowDigests() {
        int[][] pair = Due.pairByFirstByte(true);
        Counted x = Due.signed(3, 1, pair[0], pair[1]);
        dueDelta("narrow", x, 1, 0, 0, 1);
        Due.dueCounts("narrow", x, 1, 0, 1, 0, 1, 3, 1);
        Due.due("narrow: apply()", x.apply(), 3);
        Due.due("narrow: same()", x.same(), false);
        Due.dueBytes("narrow: result", x, 3, pair[0]);
        x = Due.signed(3, 16, pair[0], pair[1]);
        dueDelta("wide", x, 0, 3, pair[1][0], pair[1][1], pair[1][2]);
        Due.dueCounts("wide", x, 0, 3, 1, 1);
        pair = Due.pairByFirstByte(false);
        x = Due.signed(3, 1, pair[0], pair[1]);
        dueDelta("other first byte", x, 0, 3, pair[1][0], pair[1][1], pair[1][2]);
        Due.dueCounts("other first byte", x, 0, 3, 1, 1);
    }

    private static void bySignatureAlone() {
        Counted x = Due.signed(2, 4, Due.bytes("abcd"), Due.bytes("abcd"));
        x.put(0, 0, 'z');
        x.cut(0, 1);
        x.shape(1, 16);
        dueDelta("by the signature", x, 1, 0, 0, 2);
        Due.dueCounts("by the signature", x, 2, 0, 1, 0, 2, 2, 4);
        Due.due("by the signature: apply()", x.apply(), DeltaSync.BAD);
    }

    private static void madeAnew() {
        Counted x = Due.signed(2, 4, Due.bytes("abcd"), Due.bytes("abxcd"));
        dueDelta("first", x, 1, 0, 0, 1, 0, 1, 'x', 1, 0, 1, 1);
        x.push(3);
        x.change(0, 9);
        dueDelta("again", x, 1, 0, 0, 1, 0, 1, 'x', 1, 0, 1, 1);
        Due.dueCounts("again", x, 2, 1, 3, 0);
        x.keep(0);
        Due.file(x, 1, 1, 2);
        Due.dueCounts("of the latest one", x, 2, 1, 3, 0);
        dueDelta("another", x, 0, 2, 1, 2);
        Due.dueCounts("another", x, 0, 2, 1, 0);
        x.apply();
        Due.due("delta leaves the result", x.size(3), 2);
        x.cut(1, 0);
        dueDelta("of nothing", x);
        Due.due("delta leaves the result still", x.size(3), 2);
        Due.dueCounts("of nothing", x, 0, 0, 0, 0);
    }

    private static void countsWrongly() {
        Counted x = Due.signed(2, 4, Due.bytes("abcd"), Due.bytes("abxcd"));
        x.delta();
        for (int what : new int[] {-1, 7, 8, Integer.MIN_VALUE, Integer.MAX_VALUE}) {
            Due.due("count(" + what + ")", x.count(what), DeltaSync.NONE);
        }
    }
}
