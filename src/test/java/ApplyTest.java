/** Promises 10, 13, 14, 15, 18: applying a delta, changing one by hand, and comparing. */
public final class ApplyTest {
    public static void main(String[] args) {
        goodRows();
        badRows();
        badEmpties();
        longResults();
        theOldFileOfNow();
        changing();
        pushing();
        keeping();
        comparing();
        Due.end("ApplyTest");
    }

    private static Counted signed() {
        Counted x = new Counted();
        Due.file(x, 0, Due.bytes("abcdefg"));
        x.shape(2, 4);
        x.sign();
        return x;
    }

    private static void goodRows() {
        Counted x = signed();
        Due.deltaOf(x, 1, 0, 1, 2, 0, 3, 0, 1, 2, 1, 0, 0, 3, 0, 1, 255);
        Due.due("good: apply()", x.apply(), 4 + 3 + 6 + 1);
        Due.dueBytes("good", x, 3, 'c', 'd', 'e', 'f', 0, 1, 2, 'a', 'b', 'c', 'd', 'e', 'f', 255);
        Due.due("good: the delta stays", x.size(2), 16);
        Due.due("good: again", x.apply(), 14);
        x.keep(0);
        Due.due("empty: apply()", x.apply(), 0);
        Due.dueBytes("empty", x, 3);
    }

    private static void badRows() {
        int[][] bad = {
            {2, 1, 1}, {3, 0, 0, 1}, {255}, {2, 0, 0, 1},
            {0}, {0, 1}, {0, 2, 9}, {0, 255, 1},
            {1}, {1, 0}, {1, 0, 0},
            {0, 0}, {0, 0, 0, 1, 7}, {1, 0, 0, 0}, {1, 0, 9, 0},
            {1, 0, 3, 1}, {1, 0, 0, 4}, {1, 0, 2, 2}, {1, 1, 0, 1}, {1, 255, 255, 255}
        };
        for (int[] row : bad) {
            Counted x = signed();
            Due.deltaOf(x, row);
            Due.due("bad " + java.util.Arrays.toString(row), x.apply(), DeltaSync.BAD);
            Due.dueBytes("bad", x, 3);
            Due.dueBytes("bad", x, 2, row);
        }
    }

    // What the rows before a bad one made, and what an earlier apply made, is gone.
    private static void badEmpties() {
        Counted x = signed();
        Due.deltaOf(x, 0, 2, 8, 9);
        Due.due("before: apply()", x.apply(), 2);
        x.push(2);
        Due.due("bad: apply()", x.apply(), DeltaSync.BAD);
        Due.dueBytes("bad", x, 3);
        Due.due("bad: same() as an empty file", x.same(), true);
        x.keep(4);
        Due.due("mended: apply()", x.apply(), 2);
        Due.dueBytes("mended", x, 3, 8, 9);
    }

    private static void longResults() {
        Counted x = new Counted();
        Due.file(x, 0, Due.repeated(6, 250));
        x.shape(250, 1);
        x.sign();
        int[] eight = new int[32];
        for (int i = 0; i < 8; i++) {
            eight[4 * i] = 1;
            eight[4 * i + 3] = 1;
        }
        Due.deltaOf(x, eight);
        Due.due("2000 bytes: apply()", x.apply(), 2000);
        Due.due("2000 bytes: last", x.at(3, 1999), 6);
        x.push(0);
        x.push(1);
        x.push(5);
        Due.due("2001 bytes: apply()", x.apply(), DeltaSync.BAD);
        Due.due("2001 bytes: size(3)", x.size(3), 0);
        Due.deltaOf(x, eight);
        for (int b : new int[] {1, 0, 0, 1}) {
            x.push(b);
        }
        Due.due("2250 bytes: apply()", x.apply(), DeltaSync.BAD);
        Due.due("2250 bytes: size(3)", x.size(3), 0);
        Due.deltaOf(x, eight);
        x.keep(28);
        x.push(0);
        x.push(250);
        for (int i = 0; i < 250; i++) {
            x.push(i);
        }
        Due.due("2000 with literals: apply()", x.apply(), 2000);
        Due.due("2000 with literals: last", x.at(3, 1999), 249);
    }

    // The old file's blocks of now, by the block size of the signature made last.
    private static void theOldFileOfNow() {
        Counted x = signed();
        Due.deltaOf(x, 1, 0, 2, 1);
        x.put(0, 4, 'E');
        x.shape(1, 1);
        Due.due("changed: apply()", x.apply(), 2);
        Due.dueBytes("changed", x, 3, 'E', 'f');
        x.cut(0, 5);
        Due.due("cut: apply()", x.apply(), DeltaSync.BAD);
        x.sign();
        Due.due("signed anew: apply()", x.apply(), 1);
        Due.dueBytes("signed anew", x, 3, 'c');
        Due.file(x, 0, Due.bytes("0123456789"));
        Due.deltaOf(x, 1, 0, 5, 5);
        Due.due("more than signed: apply()", x.apply(), 5);
        Due.dueBytes("more than signed", x, 3, '5', '6', '7', '8', '9');
    }

    private static void changing() {
        Counted x = new Counted();
        Due.due("change of nothing", x.change(0, 0), false);
        Due.deltaOf(x, 0, 2, 8, 9);
        Due.due("change(2, 255)", x.change(2, 255), true);
        Due.due("change(3, 0)", x.change(3, 0), true);
        Due.due("change(1, 2), as it was", x.change(1, 2), true);
        int[][] wrong = {
            {4, 0}, {-1, 0}, {0, 256}, {0, -1}, {Integer.MAX_VALUE, 0}, {Integer.MIN_VALUE, 0},
            {0, Integer.MAX_VALUE}, {0, Integer.MIN_VALUE}
        };
        for (int[] w : wrong) {
            Due.due("change(" + w[0] + ", " + w[1] + ")", x.change(w[0], w[1]), false);
        }
        Due.dueBytes("changed", x, 2, 0, 2, 255, 0);
        Due.due("changed: apply()", x.apply(), 2);
        Due.dueBytes("changed", x, 3, 255, 0);
    }

    private static void pushing() {
        Counted x = new Counted();
        for (int b : new int[] {-1, 256, Integer.MIN_VALUE, Integer.MAX_VALUE}) {
            Due.due("push(" + b + ")", x.push(b), false);
        }
        Due.dueBytes("none pushed", x, 2);
        Due.due("push(0)", x.push(0), true);
        Due.due("push(255)", x.push(255), true);
        Due.dueBytes("pushed", x, 2, 0, 255);
        Due.file(x, 0, 1);
        Due.file(x, 1, Due.repeated(1, 1499));
        x.shape(1, 8);
        x.sign();
        Due.due("delta()", x.delta(), 5996);
        for (int i = 5996; i < 6000; i++) {
            Due.due("push at " + i, x.push(i & 255), true);
        }
        Due.due("push at 6000", x.push(1), false);
        Due.due("size(2)", x.size(2), 6000);
        Due.due("at(2, 5999)", x.at(2, 5999), 5999 & 255);
        Due.due("keep(5999)", x.keep(5999), true);
        Due.due("push at 5999", x.push(1), true);
        Due.due("push at 6000 again", x.push(1), false);
    }

    private static void keeping() {
        Counted x = new Counted();
        Due.due("keep(0) of none", x.keep(0), true);
        Due.due("keep(1) of none", x.keep(1), false);
        Due.deltaOf(x, 0, 2, 8, 9);
        for (int n : new int[] {5, -1, Integer.MAX_VALUE, Integer.MIN_VALUE}) {
            Due.due("keep(" + n + ")", x.keep(n), false);
        }
        Due.dueBytes("all kept", x, 2, 0, 2, 8, 9);
        Due.due("keep(4)", x.keep(4), true);
        Due.dueBytes("4 kept", x, 2, 0, 2, 8, 9);
        Due.due("keep(3)", x.keep(3), true);
        Due.dueBytes("3 kept", x, 2, 0, 2, 8);
        Due.due("push behind", x.push(7), true);
        Due.dueBytes("pushed behind", x, 2, 0, 2, 8, 7);
        Due.due("keep(0)", x.keep(0), true);
        Due.dueBytes("none kept", x, 2);
    }

    private static void comparing() {
        Counted x = new Counted();
        Due.due("empty ones", x.same(), true);
        Due.file(x, 1, 1, 2, 3);
        Due.due("another length", x.same(), false);
        x.delta();
        Due.due("not applied", x.same(), false);
        x.apply();
        Due.due("applied", x.same(), true);
        x.put(1, 2, 4);
        Due.due("the last byte differs", x.same(), false);
        x.put(1, 2, 3);
        x.put(1, 0, 0);
        Due.due("the first byte differs", x.same(), false);
        x.put(1, 0, 1);
        Due.due("as before", x.same(), true);
        x.cut(1, 2);
        Due.due("a shorter one", x.same(), false);
        x.feed(1, 0x03000000);
        Due.due("a longer one", x.same(), false);
        x.cut(1, 3);
        Due.due("as before again", x.same(), true);
        Due.file(x, 0, 1, 2, 3, 4);
        Due.due("the old file is no matter", x.same(), true);
    }
}
