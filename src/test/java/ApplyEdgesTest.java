/** The boundaries in promises 10, 13, 14, 15 and 18, one by one. */
public final class ApplyEdgesTest {
    private static final int MIN = Integer.MIN_VALUE, MAX = Integer.MAX_VALUE;
    private static final int NONE = DeltaSync.NONE, BAD = DeltaSync.BAD;
    private static final int[] EMPTY = {};
    // Blocks of two: ab cd ef, and a byte that is no block.
    private static final int[] OLD = Due.bytes("abcdefg");

    public static void main(String[] args) {
        good();
        emptyOnes();
        otherKinds();
        notWhole();
        ofNone();
        noSuchBlocks();
        oldFileOfNow();
        tooLong();
        behindBad();
        change();
        push();
        pushAtItsMost();
        keep();
        same();
        Due.end("ApplyEdgesTest");
    }

    private static Counted ready(int... delta) {
        Counted x = Due.signed(2, 4, OLD, EMPTY);
        Due.deltaOf(x, delta);
        return x;
    }

    private static void dueGood(String words, int[] delta, int... want) {
        Due.edge("10: " + words, () -> {
            Counted x = ready(delta);
            Due.due("apply()", x.apply(), want.length);
            Due.dueBytes("result", x, 3, want);
            Due.dueBytes("the delta stays", x, 2, delta);
        });
    }

    /** A delta that is bad alone and behind good rows, each time where an earlier result stood. */
    private static void dueBad(String words, int... delta) {
        int[] before = {0, 1, 9, 1, 0, 1, 1};
        int[][] all = {delta, Due.joined(before, delta)};
        for (int[] d : all) {
            Due.edge("10: BAD: " + words, () -> {
                Counted x = ready(0, 2, 8, 9);
                Due.due("a good one: apply()", x.apply(), 2);
                Due.deltaOf(x, d);
                Due.due("apply()", x.apply(), BAD);
                Due.dueBytes("the result is empty", x, 3);
                Due.dueBytes("the delta stays", x, 2, d);
                Due.dueBytes("the old file stays", x, 0, OLD);
                Due.due("apply() again", x.apply(), BAD);
                Due.deltaOf(x, 0, 2, 8, 9);
                Due.due("a good one again: apply()", x.apply(), 2);
                Due.dueBytes("result", x, 3, 8, 9);
            });
        }
    }

    private static void good() {
        dueGood("a row of one literal", new int[] {0, 1, 255}, 255);
        dueGood("literals that are as kinds and numbers are", new int[] {0, 4, 2, 0, 1, 0}, 2, 0, 1, 0);
        dueGood("a row of one reference: the first block", new int[] {1, 0, 0, 1}, 'a', 'b');
        dueGood("a row of one reference: the last block", new int[] {1, 0, 2, 1}, 'e', 'f');
        dueGood("a row of all blocks", new int[] {1, 0, 0, 3}, Due.bytes("abcdef"));
        dueGood("rows in their order", new int[] {1, 0, 2, 1, 0, 1, 'x', 1, 0, 0, 2, 0, 2, 'y', 'z'},
            Due.bytes("efxabcdyz"));
        dueGood("rows that delta() would have joined", new int[] {0, 1, 'x', 0, 1, 'y', 1, 0, 0, 1, 1, 0, 1, 1},
            Due.bytes("xyabcd"));
        Due.edge("10: a row of 255 literals", () -> {
            int[] most = Due.mixed(255);
            Counted x = Due.told(2, 4, EMPTY, most);
            Due.due("at(2, 1)", x.at(2, 1), 255);
            Due.due("apply()", x.apply(), 255);
            Due.dueBytes("result", x, 3, most);
            x.keep(256);
            Due.due("apply() without the last one", x.apply(), BAD);
            Due.dueBytes("result", x, 3);
        });
        Due.edge("10: a row of 255 references", () -> {
            int[] old = Due.mixed(256);
            Counted x = Due.signed(1, 4, old, EMPTY);
            Due.deltaOf(x, 1, 0, 0, 255);
            Due.due("apply()", x.apply(), 255);
            Due.dueBytes("result", x, 3, Due.part(old, 0, 255));
            x.change(2, 1);
            Due.due("apply(), from block 1 on", x.apply(), 255);
            Due.due("at(3, 254)", x.at(3, 254), old[255]);
            x.change(2, 2);
            Due.due("apply(), from block 2 on", x.apply(), BAD);
        });
        Due.edge("10: a number of two bytes, the higher first", () -> {
            int[] old = Due.mixed(1000);
            Counted x = Due.signed(1, 4, old, EMPTY);
            for (int block : new int[] {255, 256, 257, 512, 999}) {
                Due.deltaOf(x, 1, block >> 8, block & 255, 1);
                Due.due("apply()", x.apply(), 1);
                Due.due("block " + block, x.at(3, 0), old[block]);
            }
            Due.deltaOf(x, 1, 1000 >> 8, 1000 & 255, 1);
            Due.due("apply() of block 1000", x.apply(), BAD);
        });
    }

    private static void emptyOnes() {
        dueGood("an empty delta makes an empty result", EMPTY);
        Due.edge("10: an empty delta behind another result", () -> {
            Counted x = ready(0, 2, 8, 9);
            x.apply();
            x.keep(0);
            Due.due("apply()", x.apply(), 0);
            Due.dueBytes("result", x, 3);
        });
        Due.edge("10: an empty old file: literals alone do", () -> {
            Counted x = new Counted();
            Due.deltaOf(x, 0, 2, 8, 9);
            Due.due("apply()", x.apply(), 2);
            Due.dueBytes("result", x, 3, 8, 9);
            Due.deltaOf(x, 1, 0, 0, 1);
            Due.due("apply() of block 0", x.apply(), BAD);
        });
        Due.edge("10: a shorter result behind a longer one has nothing of it", () -> {
            Counted x = ready(1, 0, 0, 3);
            Due.due("apply()", x.apply(), 6);
            x.change(3, 1);
            Due.due("apply()", x.apply(), 2);
            Due.dueBytes("result", x, 3, 'a', 'b');
        });
    }

    private static void otherKinds() {
        for (int kind : new int[] {2, 3, 4, 127, 128, 254, 255}) {
            dueBad("a row begins otherwise: " + kind, kind);
            dueBad("a row begins otherwise, as a row of literals: " + kind, kind, 1, 7);
            dueBad("a row begins otherwise, as a row of references: " + kind, kind, 0, 0, 1);
            dueBad("a row begins otherwise, before a good one: " + kind, kind, 0, 1, 7);
        }
        dueBad("a byte behind the literals that the row has not", 0, 1, 7, 8);
        dueBad("a byte behind the row of references", 1, 0, 0, 1, 9);
    }

    private static void notWhole() {
        dueBad("a row of literals of one byte", 0);
        dueBad("a row of literals without the one", 0, 1);
        dueBad("a row of literals without the second", 0, 2, 7);
        dueBad("a row of literals with all but the last", 0, 5, 7, 7, 7, 7);
        dueBad("a row of references of one byte", 1);
        dueBad("a row of references of two bytes", 1, 0);
        dueBad("a row of references of three bytes", 1, 0, 0);
        Due.edge("10: BAD: a delta that is cut off within a row, wherever", () -> {
            int[] all = {1, 0, 0, 2, 0, 3, 7, 8, 9, 1, 0, 2, 1};
            for (int n = 0; n <= all.length; n++) {
                Counted x = ready(all);
                x.keep(n);
                int want = n == 0 ? 0 : n == 4 ? 4 : n == 9 ? 7 : n == 13 ? 9 : BAD;
                Due.due("apply() of " + n + " bytes", x.apply(), want);
                Due.due("size(3)", x.size(3), Math.max(0, want));
            }
        });
        Due.edge("10: a row is not whole by bytes that were kept away, though they stood there", () -> {
            Counted x = ready(0, 2, 8, 9);
            x.keep(3);
            Due.due("apply()", x.apply(), BAD);
            x.push(7);
            Due.due("apply()", x.apply(), 2);
            Due.dueBytes("result", x, 3, 8, 7);
        });
    }

    private static void ofNone() {
        dueBad("a row of 0 literals", 0, 0);
        dueBad("a row of 0 literals before a good one", 0, 0, 0, 1, 7);
        dueBad("a row of 0 references to a block that is there", 1, 0, 0, 0);
        dueBad("a row of 0 references to the place behind the blocks", 1, 0, 3, 0);
        dueBad("a row of 0 references to a block that is not there", 1, 9, 9, 0);
        dueBad("a row of 0 references before a good one", 1, 0, 0, 0, 0, 1, 7);
    }

    private static void noSuchBlocks() {
        dueBad("the block behind the last, of which a byte is there", 1, 0, 3, 1);
        dueBad("a block far behind", 1, 0, 4, 1);
        dueBad("a number whose higher byte counts", 1, 1, 0, 1);
        dueBad("the highest number", 1, 255, 255, 1);
        dueBad("the highest number and the most", 1, 255, 255, 255);
        dueBad("from the first on one too many", 1, 0, 0, 4);
        dueBad("from the last on one too many", 1, 0, 2, 2);
        dueBad("from the first on the most", 1, 0, 0, 255);
        Due.edge("10: BAD: the highest number at the largest block size", () -> {
            Counted x = Due.signed(256, 4, Due.mixed(512), EMPTY);
            Due.deltaOf(x, 1, 255, 255, 255);
            Due.due("apply()", x.apply(), BAD);
            Due.deltaOf(x, 1, 0, 1, 1);
            Due.due("apply() of block 1", x.apply(), 256);
            Due.deltaOf(x, 1, 0, 2, 1);
            Due.due("apply() of block 2", x.apply(), BAD);
        });
    }

    private static void oldFileOfNow() {
        Due.edge("10: blocks that the old file has: one byte short of the last", () -> {
            Counted x = ready(1, 0, 2, 1);
            x.cut(0, 6);
            Due.due("apply(), the block at the last byte", x.apply(), 2);
            x.cut(0, 5);
            Due.due("apply(), one byte short of it", x.apply(), BAD);
            Due.dueBytes("result", x, 3);
        });
        Due.edge("10: blocks that the old file has by now, more than the signature", () -> {
            Counted x = ready(1, 0, 3, 1);
            Due.due("apply()", x.apply(), BAD);
            x.feed(0, 0x68696a6b);
            Due.due("apply() of a file that has grown", x.apply(), 2);
            Due.dueBytes("result", x, 3, 'g', 'h');
            Due.due("count(4)", x.count(4), 3);
        });
        Due.edge("10: the bytes of the old file of now", () -> {
            Counted x = ready(1, 0, 0, 1);
            x.put(0, 1, 'Z');
            Due.due("apply()", x.apply(), 2);
            Due.dueBytes("result", x, 3, 'a', 'Z');
        });
        Due.edge("10: by the signature's block size, not by the next one's", () -> {
            Counted x = ready(1, 0, 1, 1);
            x.shape(3, 1);
            Due.due("apply()", x.apply(), 2);
            Due.dueBytes("by 2", x, 3, 'c', 'd');
            x.sign();
            Due.due("apply()", x.apply(), 3);
            Due.dueBytes("by 3", x, 3, 'd', 'e', 'f');
        });
        Due.edge("10: a result stays as it is when the old file, the delta and the signature change", () -> {
            Counted x = ready(1, 0, 1, 1);
            x.apply();
            x.put(0, 2, 0);
            x.cut(0, 1);
            x.change(0, 9);
            x.keep(0);
            x.sign();
            x.delta();
            Due.dueBytes("result", x, 3, 'c', 'd');
        });
    }

    /** A delta that makes 2000 bytes of an old file of 500. */
    private static Counted fullResult() {
        Counted x = Due.signed(250, 1, Due.mixed(500), EMPTY);
        for (int row = 0; row < 4; row++) {
            x.push(1);
            x.push(0);
            x.push(0);
            x.push(2);
        }
        return x;
    }

    private static void tooLong() {
        int[] old = Due.mixed(500);
        Due.edge("10: 2000 bytes at most: just so many", () -> {
            Counted x = fullResult();
            Due.due("apply()", x.apply(), 2000);
            Due.due("size(3)", x.size(3), 2000);
            for (int i : new int[] {0, 249, 250, 499, 500, 1000, 1500, 1999}) {
                Due.due("at(3, " + i + ")", x.at(3, i), old[i % 500]);
            }
            Due.due("at(3, 2000)", x.at(3, 2000), NONE);
        });
        Due.edge("10: BAD: makes the result too long: by one literal", () -> {
            Counted x = fullResult();
            x.push(0);
            x.push(1);
            x.push(7);
            Due.due("apply()", x.apply(), BAD);
            Due.dueBytes("result", x, 3);
        });
        Due.edge("10: BAD: makes the result too long: by one block", () -> {
            Counted x = fullResult();
            x.push(1);
            x.push(0);
            x.push(0);
            x.push(1);
            Due.due("apply()", x.apply(), BAD);
            Due.dueBytes("result", x, 3);
        });
        Due.edge("10: just 2000 with literals at the end; BAD with one more", () -> {
            Counted x = fullResult();
            x.change(15, 1);
            x.push(0);
            x.push(250);
            for (int i = 0; i < 250; i++) {
                x.push(i);
            }
            Due.due("apply()", x.apply(), 2000);
            Due.due("at(3, 1749)", x.at(3, 1749), old[249]);
            Due.due("at(3, 1750)", x.at(3, 1750), 0);
            Due.due("at(3, 1999)", x.at(3, 1999), 249);
            x.change(17, 251);
            x.push(9);
            Due.due("apply() of one more", x.apply(), BAD);
            Due.due("size(3)", x.size(3), 0);
        });
        Due.edge("10: BAD: a row that goes over 2000 in its midst", () -> {
            Counted x = Due.signed(256, 1, Due.mixed(512), EMPTY);
            Due.deltaOf(x, 1, 0, 0, 2, 1, 0, 0, 2, 1, 0, 0, 2);
            Due.due("1536", x.apply(), 1536);
            Due.deltaOf(x, 1, 0, 0, 2, 1, 0, 0, 2, 1, 0, 0, 2, 1, 0, 0, 2);
            Due.due("2048", x.apply(), BAD);
            x.change(15, 1);
            Due.due("1792", x.apply(), 1792);
        });
        Due.edge("10: one row of 250 blocks of 8 makes 2000", () -> {
            int[] full = Due.mixed(2000);
            Counted x = Due.signed(8, 1, full, EMPTY);
            for (int b : new int[] {1, 0, 0, 250}) {
                x.push(b);
            }
            Due.due("apply()", x.apply(), 2000);
            Due.due("at(3, 1999)", x.at(3, 1999), full[1999]);
            x.change(3, 251);
            Due.due("apply() of one more", x.apply(), BAD);
        });
        Due.edge("10: a delta that is BAD by its length and goes on with a good row is BAD", () -> {
            Counted x = fullResult();
            for (int b : new int[] {0, 1, 7, 0, 1, 8}) {
                x.push(b);
            }
            Due.due("apply()", x.apply(), BAD);
        });
    }

    private static void behindBad() {
        Due.edge("10: BAD, and the result is empty: all else is as it was", () -> {
            Counted x = Due.told(2, 4, OLD, Due.bytes("cdxab"));
            Due.due("apply()", x.apply(), 5);
            x.push(3);
            Due.due("apply()", x.apply(), BAD);
            Due.dueBytes("old", x, 0, OLD);
            Due.dueBytes("new", x, 1, Due.bytes("cdxab"));
            Due.dueBytes("delta", x, 2, 1, 0, 1, 1, 0, 1, 'x', 1, 0, 0, 1, 3);
            Due.dueBytes("result", x, 3);
            Due.dueCounts("counts", x, 2, 1, 3, 0, 3, 2, 4);
            Due.due("sum(2)", x.sum(2), Due.sumOf('e', 'f'));
            Due.due("same()", x.same(), false);
            x.keep(11);
            Due.due("mended: apply()", x.apply(), 5);
            Due.due("same()", x.same(), true);
        });
    }

    private static void change() {
        Due.edge("13: the first and the last byte", () -> {
            Counted x = ready(0, 2, 8, 9);
            Due.due("change(0, 1)", x.change(0, 1), true);
            Due.due("change(3, 200)", x.change(3, 200), true);
            Due.dueBytes("delta", x, 2, 1, 2, 8, 200);
        });
        Due.edge("13: the bytes 0 and 255, and the one that stood there", () -> {
            Counted x = ready(7);
            for (int b : new int[] {0, 0, 255, 255, 1, 254, 127, 128}) {
                Due.due("change(0, " + b + ")", x.change(0, b), true);
                Due.due("at(2, 0)", x.at(2, 0), b);
            }
        });
        Due.edge("13: False: not 0 .. 255", () -> {
            Counted x = ready(7, 8);
            for (int b : new int[] {-1, 256, 257, -255, -256, 65536, MIN, MAX}) {
                Due.due("change(1, " + b + ")", x.change(1, b), false);
            }
            Due.dueBytes("delta", x, 2, 7, 8);
        });
        Due.edge("13: False: no such byte", () -> {
            Counted x = ready(7, 8);
            for (int i : new int[] {-1, 2, 3, 63, 64, 5999, 6000, 8000, MIN, MAX}) {
                Due.due("change(" + i + ", 1)", x.change(i, 1), false);
            }
            Due.dueBytes("delta", x, 2, 7, 8);
        });
        Due.edge("13: False: an empty delta, and bytes kept away", () -> {
            Counted x = new Counted();
            Due.due("change(0, 1)", x.change(0, 1), false);
            Due.deltaOf(x, 7, 8);
            x.keep(1);
            Due.due("change(1, 1)", x.change(1, 1), false);
            Due.dueBytes("delta", x, 2, 7);
        });
    }

    private static void push() {
        Due.edge("14: the bytes 0 and 255 come behind", () -> {
            Counted x = new Counted();
            Due.due("push(0)", x.push(0), true);
            Due.due("push(255)", x.push(255), true);
            Due.due("push(128)", x.push(128), true);
            Due.dueBytes("delta", x, 2, 0, 255, 128);
        });
        Due.edge("14: behind a delta that delta() made", () -> {
            Counted x = Due.told(2, 4, OLD, Due.bytes("ab"));
            Due.due("push(9)", x.push(9), true);
            Due.dueBytes("delta", x, 2, 1, 0, 0, 1, 9);
        });
        Due.edge("14: False: not such", () -> {
            Counted x = ready(7);
            for (int b : new int[] {-1, 256, 257, -255, -256, 65536, MIN, MAX}) {
                Due.due("push(" + b + ")", x.push(b), false);
            }
            Due.dueBytes("delta", x, 2, 7);
        });
    }

    /** A delta of so many rows of one reference each. */
    private static Counted longDelta(int rows) {
        return Due.told(1, 8, new int[] {1, 2, 1, 2}, Due.repeated(1, rows));
    }

    private static void pushAtItsMost() {
        Due.edge("14: 6000 at most: the last ones", () -> {
            Counted x = longDelta(1499);
            Due.due("size(2)", x.size(2), 5996);
            for (int i = 5996; i < 6000; i++) {
                Due.due("push at " + i, x.push(i & 255), true);
                Due.due("size(2)", x.size(2), i + 1);
            }
            Due.due("push at 6000", x.push(1), false);
            Due.due("push at 6000 of what is no byte", x.push(256), false);
            Due.due("size(2)", x.size(2), 6000);
            for (int i = 5996; i < 6000; i++) {
                Due.due("at(2, " + i + ")", x.at(2, i), i & 255);
            }
            Due.due("at(2, 6000)", x.at(2, 6000), NONE);
        });
        Due.edge("14: False: no room: delta() made 6000", () -> {
            Counted x = longDelta(1500);
            Due.due("size(2)", x.size(2), 6000);
            Due.due("push(1)", x.push(1), false);
            Due.due("size(2)", x.size(2), 6000);
            Due.due("keep(5999)", x.keep(5999), true);
            Due.due("push(2)", x.push(2), true);
            Due.due("push(3)", x.push(3), false);
            Due.due("at(2, 5999)", x.at(2, 5999), 2);
            Due.due("change(5999, 1)", x.change(5999, 1), true);
            Due.due("apply()", x.apply(), 1500);
            Due.due("same()", x.same(), true);
        });
        Due.edge("14: False: no room: delta() made more than 6000", () -> {
            Counted x = longDelta(1600);
            Due.due("size(2)", x.size(2), 6400);
            Due.due("push(1)", x.push(1), false);
            Due.due("size(2)", x.size(2), 6400);
            Due.due("keep(6001)", x.keep(6001), true);
            Due.due("push(1)", x.push(1), false);
            Due.due("keep(6000)", x.keep(6000), true);
            Due.due("push(1)", x.push(1), false);
            Due.due("keep(5998)", x.keep(5998), true);
            Due.due("push(5)", x.push(5), true);
            Due.due("push(6)", x.push(6), true);
            Due.due("push(7)", x.push(7), false);
            Due.due("at(2, 5998)", x.at(2, 5998), 5);
            Due.due("at(2, 5999)", x.at(2, 5999), 6);
            Due.due("at(2, 6000)", x.at(2, 6000), NONE);
        });
    }

    private static void keep() {
        Due.edge("15: the first n bytes alone, of each n", () -> {
            int[] all = {0, 3, 8, 9, 7};
            for (int n = 0; n <= 5; n++) {
                Counted x = ready(all);
                Due.due("keep(" + n + ")", x.keep(n), true);
                Due.dueBytes("delta", x, 2, Due.part(all, 0, n));
            }
        });
        Due.edge("15: False: it has fewer", () -> {
            Counted x = ready(0, 1, 8);
            for (int n : new int[] {4, 5, 64, 6000, 8000, MAX}) {
                Due.due("keep(" + n + ")", x.keep(n), false);
            }
            Due.dueBytes("delta", x, 2, 0, 1, 8);
            x.keep(1);
            Due.due("keep(2) behind keep(1)", x.keep(2), false);
            Due.dueBytes("delta", x, 2, 0);
        });
        Due.edge("15: False: n is below 0", () -> {
            Counted x = ready(0, 1, 8);
            for (int n : new int[] {-1, -2, -3, MIN, MIN + 1}) {
                Due.due("keep(" + n + ")", x.keep(n), false);
            }
            Due.dueBytes("delta", x, 2, 0, 1, 8);
        });
        Due.edge("15: an empty delta", () -> {
            Counted x = new Counted();
            Due.due("keep(0)", x.keep(0), true);
            Due.due("keep(1)", x.keep(1), false);
            Due.due("keep(-1)", x.keep(-1), false);
        });
        Due.edge("15: the most that delta() makes", () -> {
            Counted x = longDelta(2000);
            Due.due("keep(8001)", x.keep(8001), false);
            Due.due("keep(8000)", x.keep(8000), true);
            Due.due("keep(7999)", x.keep(7999), true);
            Due.due("keep(8000)", x.keep(8000), false);
            Due.due("size(2)", x.size(2), 7999);
        });
    }

    private static void same() {
        Due.edge("18: both are empty", () -> {
            Counted x = new Counted();
            Due.due("same()", x.same(), true);
            x.feed(0, 1);
            Due.due("the old file is no matter", x.same(), true);
            x.push(9);
            Due.due("BAD", x.apply(), BAD);
            Due.due("same(), the result being empty", x.same(), true);
            x.feed(1, 1);
            Due.due("same(), the new file not being empty", x.same(), false);
        });
        Due.edge("18: an empty new file, and a result that is not", () -> {
            Counted x = ready(0, 1, 8);
            x.apply();
            Due.due("same()", x.same(), false);
        });
        Due.edge("18: byte for byte: each byte in its turn is another one", () -> {
            Counted x = Due.told(2, 4, OLD, Due.bytes("cdxab"));
            x.apply();
            Due.due("same()", x.same(), true);
            for (int i = 0; i < 5; i++) {
                int b = x.at(1, i);
                x.put(1, i, b ^ 128);
                Due.due("same(), byte " + i + " changed", x.same(), false);
                x.put(1, i, b);
                Due.due("same(), byte " + i + " as before", x.same(), true);
            }
        });
        Due.edge("18: one byte longer or shorter is another file", () -> {
            Counted x = Due.told(2, 4, OLD, Due.bytes("cdxab"));
            x.apply();
            x.cut(1, 4);
            Due.due("the new file is shorter", x.same(), false);
            x.feed(1, 0x62000000);
            x.cut(1, 6);
            Due.due("the new file is longer, by a 0", x.same(), false);
            x.cut(1, 5);
            Due.due("as before", x.same(), true);
        });
        Due.edge("18: the result, not the delta: before and behind apply()", () -> {
            Counted x = Due.told(2, 4, OLD, Due.bytes("cdxab"));
            Due.due("before", x.same(), false);
            x.apply();
            x.keep(0);
            Due.due("behind, the delta being empty", x.same(), true);
        });
        Due.edge("18: full ones", () -> {
            Counted x = Due.told(1, 8, new int[] {1, 2, 1, 2}, Due.repeated(1, 2000));
            Due.due("apply()", x.apply(), 2000);
            Due.due("same()", x.same(), true);
            x.put(1, 1999, 2);
            Due.due("same(), the last byte changed", x.same(), false);
        });
    }
}
