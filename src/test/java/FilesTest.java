/** Promises 1 to 4, 11, 12, 16: the new object, the two files, and what is read of them. */
public final class FilesTest {
    public static void main(String[] args) {
        newObject();
        feeding();
        fullFile();
        cutting();
        putting();
        readingWrongly();
        sums();
        Due.end("FilesTest");
    }

    private static void newObject() {
        Counted x = new Counted();
        for (int which = 0; which < 4; which++) {
            Due.dueBytes("new", x, which);
        }
        int[] counts = {0, 0, 0, 0, 0, 16, 8};
        for (int what = 0; what < counts.length; what++) {
            Due.due("new: count(" + what + ")", x.count(what), counts[what]);
        }
        Due.due("new: same()", x.same(), true);
        Due.due("new: sum(0)", x.sum(0), 0);
        Due.due("new: digest(0, 0)", x.digest(0, 0), DeltaSync.NONE);
        Due.due("new: apply()", x.apply(), 0);
        Due.due("new: delta()", x.delta(), 0);
        unsignedBlocks();
        firstShape();
    }

    // No signature has the block size 16: so many bytes does a reference take.
    private static void unsignedBlocks() {
        Counted x = new Counted();
        Due.file(x, 0, Due.repeated(7, 40));
        Due.file(x, 1, Due.repeated(7, 40));
        Due.due("unsigned: delta()", x.delta(), 42);
        Due.deltaOf(x, 1, 0, 1, 1);
        Due.due("unsigned: apply()", x.apply(), 16);
        Due.deltaOf(x, 1, 0, 2, 1);
        Due.due("unsigned: apply() of a third block", x.apply(), DeltaSync.BAD);
    }

    private static void firstShape() {
        Counted x = new Counted();
        Due.file(x, 0, Due.repeated(7, 47));
        Due.due("first shape: sign()", x.sign(), 2);
        Due.due("first shape: digest(1, 7)", x.digest(1, 7), Due.md5(Due.repeated(7, 16))[7]);
        Due.due("first shape: digest(1, 8)", x.digest(1, 8), DeltaSync.NONE);
    }

    private static void feeding() {
        Counted x = new Counted();
        Due.due("feed(0, 01020304)", x.feed(0, 0x01020304), 4);
        Due.due("feed(0, fffefdfc)", x.feed(0, 0xfffefdfc), 8);
        Due.due("feed(1, 80000001)", x.feed(1, 0x80000001), 4);
        Due.dueBytes("fed", x, 0, 1, 2, 3, 4, 255, 254, 253, 252);
        Due.dueBytes("fed", x, 1, 128, 0, 0, 1);
        Due.dueBytes("fed", x, 2);
        Due.dueBytes("fed", x, 3);
        for (int file : new int[] {-1, 2, 3, 4, Integer.MIN_VALUE, Integer.MAX_VALUE}) {
            Due.due("feed(" + file + ", 1)", x.feed(file, 1), DeltaSync.NONE);
        }
    }

    private static void fullFile() {
        for (int file = 0; file < 2; file++) {
            Counted x = new Counted();
            for (int i = 1; i <= 500; i++) {
                Due.due("feed no. " + i, x.feed(file, i), 4 * i);
            }
            Due.due("feed no. 501", x.feed(file, 1), DeltaSync.NONE);
            Due.due("size when full", x.size(file), 2000);
            Due.due("byte 1998", x.at(file, 1998), 500 >> 8);
            Due.due("byte 1999", x.at(file, 1999), 500 & 255);
            Due.due("cut to 1997", x.cut(file, 1997), true);
            Due.due("feed at 1997", x.feed(file, 0x01010101), DeltaSync.NONE);
            Due.due("size at 1997", x.size(file), 1997);
            Due.due("at(1997)", x.at(file, 1997), DeltaSync.NONE);
            Due.due("cut to 1996", x.cut(file, 1996), true);
            Due.due("feed at 1996", x.feed(file, 0x01010101), 2000);
        }
    }

    private static void cutting() {
        Counted x = new Counted();
        Due.file(x, 0, 1, 2, 3, 4, 5);
        Due.file(x, 1, 6, 7);
        Due.due("cut(0, 6)", x.cut(0, 6), false);
        Due.due("cut(0, -1)", x.cut(0, -1), false);
        Due.due("cut(0, MIN)", x.cut(0, Integer.MIN_VALUE), false);
        Due.due("cut(2, 0)", x.cut(2, 0), false);
        Due.due("cut(-1, 0)", x.cut(-1, 0), false);
        Due.dueBytes("uncut", x, 0, 1, 2, 3, 4, 5);
        Due.due("cut(0, 5)", x.cut(0, 5), true);
        Due.dueBytes("cut to all", x, 0, 1, 2, 3, 4, 5);
        Due.due("cut(0, 3)", x.cut(0, 3), true);
        Due.dueBytes("cut to 3", x, 0, 1, 2, 3);
        Due.dueBytes("the other one", x, 1, 6, 7);
        Due.due("feed behind the cut", x.feed(0, 0x09080706), 7);
        Due.dueBytes("fed behind the cut", x, 0, 1, 2, 3, 9, 8, 7, 6);
        Due.due("cut(0, 0)", x.cut(0, 0), true);
        Due.dueBytes("cut to none", x, 0);
        Due.due("cut(0, 0) again", x.cut(0, 0), true);
    }

    private static void putting() {
        Counted x = new Counted();
        Due.due("put into none", x.put(0, 0, 0), false);
        Due.file(x, 0, 1, 2, 3);
        Due.file(x, 1, 4, 5, 6);
        Due.due("put(0, 0, 255)", x.put(0, 0, 255), true);
        Due.due("put(0, 2, 0)", x.put(0, 2, 0), true);
        Due.due("put(1, 1, 9)", x.put(1, 1, 9), true);
        Due.due("put(1, 1, 9) again", x.put(1, 1, 9), true);
        int[][] wrong = {
            {0, 3, 1}, {0, -1, 1}, {0, 0, 256}, {0, 0, -1}, {2, 0, 1}, {3, 0, 1}, {-1, 0, 1},
            {0, Integer.MAX_VALUE, 1}, {0, Integer.MIN_VALUE, 1}, {0, 0, Integer.MAX_VALUE}
        };
        for (int[] w : wrong) {
            Due.due("put(" + w[0] + ", " + w[1] + ", " + w[2] + ")", x.put(w[0], w[1], w[2]), false);
        }
        Due.dueBytes("put", x, 0, 255, 2, 0);
        Due.dueBytes("put", x, 1, 4, 9, 6);
    }

    private static void readingWrongly() {
        Counted x = new Counted();
        for (int which = 0; which < 2; which++) {
            Due.file(x, which, 1, 2, 3, 4);
        }
        x.delta();
        x.apply();
        for (int which : new int[] {-1, 4, 5, Integer.MIN_VALUE, Integer.MAX_VALUE}) {
            Due.due("at(" + which + ", 0)", x.at(which, 0), DeltaSync.NONE);
            Due.due("size(" + which + ")", x.size(which), DeltaSync.NONE);
        }
        int[] sizes = {4, 4, 6, 4};
        for (int which = 0; which < 4; which++) {
            Due.due("size(" + which + ")", x.size(which), sizes[which]);
            for (int i : new int[] {-1, sizes[which], Integer.MIN_VALUE, Integer.MAX_VALUE}) {
                Due.due("at(" + which + ", " + i + ")", x.at(which, i), DeltaSync.NONE);
            }
        }
    }

    private static void sums() {
        Counted x = new Counted();
        Due.file(x, 0, 1, 2, 3, 255);
        Due.file(x, 1, 5);
        Due.due("sumAt(0, 0, 1)", x.sumAt(0, 0, 1), 65537);
        Due.due("sumAt(0, 0, 3)", x.sumAt(0, 0, 3), 65536 * (3 + 4 + 3) + 6);
        Due.due("sumAt(0, 2, 2)", x.sumAt(0, 2, 2), 65536 * (6 + 255) + 258);
        Due.due("sumAt(1, 0, 1)", x.sumAt(1, 0, 1), 65537 * 5);
        Due.due("sumAt(0, 0, 0)", x.sumAt(0, 0, 0), 0);
        Due.due("sumAt(0, 4, 0)", x.sumAt(0, 4, 0), 0);
        int[][] wrong = {
            {0, 0, 5}, {0, 1, 4}, {0, 4, 1}, {0, -1, 2}, {0, 0, -1}, {0, 3, -1}, {2, 0, 1}, {-1, 0, 1}, {3, 0, 1},
            {0, 1, Integer.MAX_VALUE}, {0, Integer.MAX_VALUE, 1}, {0, Integer.MAX_VALUE, Integer.MAX_VALUE},
            {0, Integer.MIN_VALUE, Integer.MIN_VALUE}, {0, 5, -1}
        };
        for (int[] w : wrong) {
            Due.due("sumAt(" + w[0] + ", " + w[1] + ", " + w[2] + ")", x.sumAt(w[0], w[1], w[2]), 0);
        }
        x = new Counted();
        Due.feed(x, 0, Due.repeated(255, 2000));
        long a = 255L * 2000 % 65536;
        long b = 255L * (2000L * 2001 / 2) % 65536;
        Due.due("sumAt(0, 0, 2000)", x.sumAt(0, 0, 2000), (int) (65536 * b + a));
    }
}
