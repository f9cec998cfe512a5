/** The boundaries in promises 5 to 8 and 17, one by one. */
public final class SignatureEdgesTest {
    private static final int MIN = Integer.MIN_VALUE, MAX = Integer.MAX_VALUE, NONE = DeltaSync.NONE;

    public static void main(String[] args) {
        shape();
        sign();
        signAgain();
        sum();
        digest();
        md5();
        md5Lengths();
        Due.end("SignatureEdgesTest");
    }

    private static void shape() {
        for (int[] s : new int[][] {{1, 1}, {1, 16}, {256, 1}, {256, 16}, {2, 2}, {255, 15}, {16, 8}}) {
            Due.edge("5: within the bounds: " + s[0] + ", " + s[1], () -> {
                Counted x = new Counted();
                Due.feed(x, 0, Due.mixed(512));
                Due.due("shape", x.shape(s[0], s[1]), true);
                Due.due("sign()", x.sign(), 512 / s[0]);
                Due.due("count(5)", x.count(5), s[0]);
                Due.due("count(6)", x.count(6), s[1]);
                int[] digest = Due.md5(Due.part(Due.mixed(512), 0, s[0]));
                Due.due("the last digest byte", x.digest(0, s[1] - 1), digest[s[1] - 1]);
                Due.due("the one behind", x.digest(0, s[1]), NONE);
            });
        }
        int[][] wrong = {
            {0, 5}, {257, 5}, {-1, 5}, {-16, 5}, {512, 5}, {MIN, 5}, {MAX, 5},
            {3, 0}, {3, 17}, {3, -1}, {3, -8}, {3, 256}, {3, MIN}, {3, MAX},
            {0, 0}, {257, 17}, {0, 17}, {257, 0}, {-1, -1}, {MIN, MIN}, {MAX, MAX}
        };
        for (int[] w : wrong) {
            Due.edge("5: False: not such: " + w[0] + ", " + w[1], () -> {
                Counted x = new Counted();
                Due.feed(x, 0, Due.mixed(64));
                Due.due("shape", x.shape(w[0], w[1]), false);
                Due.due("sign()", x.sign(), 4);
                Due.due("count(5)", x.count(5), 16);
                Due.due("count(6)", x.count(6), 8);
                x.shape(7, 9);
                Due.due("shape again", x.shape(w[0], w[1]), false);
                Due.due("sign()", x.sign(), 9);
                Due.due("count(5), the one before", x.count(5), 7);
                Due.due("count(6), the one before", x.count(6), 9);
            });
        }
        Due.edge("5: for signatures from now on: the one that stands keeps its own", () -> {
            Counted x = Due.signed(4, 3, Due.bytes("abcdefgh"), Due.bytes("efghabcd"));
            Due.due("shape", x.shape(2, 16), true);
            Due.due("count(4)", x.count(4), 2);
            Due.due("count(5)", x.count(5), 4);
            Due.due("count(6)", x.count(6), 3);
            Due.due("sum(1)", x.sum(1), Due.sumOf(Due.bytes("efgh")));
            Due.due("digest(0, 3)", x.digest(0, 3), NONE);
            Due.due("delta()", x.delta(), 8);
            Due.dueBytes("by blocks of 4", x, 2, 1, 0, 1, 1, 1, 0, 0, 1);
            Due.due("apply()", x.apply(), 8);
            Due.due("sign()", x.sign(), 4);
            Due.due("delta()", x.delta(), 8);
            Due.dueBytes("by blocks of 2", x, 2, 1, 0, 2, 2, 1, 0, 0, 2);
        });
        Due.edge("5: of several shapes the last one", () -> {
            Counted x = new Counted();
            Due.feed(x, 0, Due.mixed(12));
            x.shape(2, 3);
            x.shape(4, 5);
            Due.due("sign()", x.sign(), 3);
            Due.due("count(6)", x.count(6), 5);
            Due.due("sign(), by the same", x.sign(), 3);
        });
        Due.edge("5: 16 and 8 at first", () -> {
            Counted x = new Counted();
            Due.feed(x, 0, Due.mixed(33));
            Due.due("sign()", x.sign(), 2);
            Due.due("digest(1, 7)", x.digest(1, 7), Due.md5(Due.part(Due.mixed(33), 16, 16))[7]);
            Due.due("digest(1, 8)", x.digest(1, 8), NONE);
        });
    }

    private static void dueBlocks(String what, int size, int length, int want) {
        Due.edge("6: " + what, () -> {
            int[] old = Due.mixed(length);
            Counted x = new Counted();
            Due.feed(x, 0, old);
            x.shape(size, 16);
            Due.due("sign()", x.sign(), want);
            Due.due("count(4)", x.count(4), want);
            Due.due("sum of the block behind", x.sum(want), 0);
            Due.due("digest of the block behind", x.digest(want, 0), NONE);
            if (want > 0) {
                int[] last = Due.part(old, (want - 1) * size, size);
                Due.due("sum of the last block", x.sum(want - 1), Due.sumOf(last));
                Due.due("digest of the last block", x.digest(want - 1, 15), Due.md5(last)[15]);
            }
        });
    }

    private static void sign() {
        for (int size : new int[] {1, 2, 3, 16, 55, 56, 63, 64, 65, 255, 256}) {
            dueBlocks("an empty old file, blocks of " + size, size, 0, 0);
            dueBlocks("one byte short of a block of " + size, size, size - 1, 0);
            dueBlocks("just one block of " + size, size, size, 1);
            dueBlocks("one byte more than a block of " + size, size, size + 1, size == 1 ? 2 : 1);
            dueBlocks("one byte short of three blocks of " + size, size, 3 * size - 1, 2);
            dueBlocks("just three blocks of " + size, size, 3 * size, 3);
        }
        dueBlocks("a full file in blocks of 1", 1, 2000, 2000);
        dueBlocks("a full file in blocks of 2", 2, 2000, 1000);
        dueBlocks("a full file in blocks of 7", 7, 2000, 285);
        dueBlocks("a full file in blocks of 250", 250, 2000, 8);
        dueBlocks("a full file in blocks of 255", 255, 2000, 7);
        dueBlocks("a full file in blocks of 256", 256, 2000, 7);
        dueBlocks("one byte short of a full file in blocks of 250", 250, 1999, 7);
        Due.edge("6: the old file's alone", () -> {
            Counted x = new Counted();
            Due.feed(x, 1, Due.mixed(64));
            Due.due("sign()", x.sign(), 0);
            x.feed(0, 1);
            Due.due("sign()", x.sign(), 0);
        });
    }

    private static void signAgain() {
        Due.edge("6: a signature of fewer blocks has nothing of the one before", () -> {
            Counted x = Due.signed(2, 4, Due.bytes("abcdef"), Due.bytes("efcdab"));
            x.cut(0, 4);
            Due.due("sign()", x.sign(), 2);
            Due.due("sum(2)", x.sum(2), 0);
            Due.due("digest(2, 0)", x.digest(2, 0), NONE);
            Due.due("delta()", x.delta(), 12);
            Due.dueBytes("without ef", x, 2, 0, 2, 'e', 'f', 1, 0, 1, 1, 1, 0, 0, 1);
        });
        Due.edge("6: a signature of no blocks has nothing of the one before", () -> {
            Counted x = Due.signed(2, 4, Due.bytes("abcd"), Due.bytes("abcd"));
            x.cut(0, 1);
            Due.due("sign()", x.sign(), 0);
            Due.due("sum(0)", x.sum(0), 0);
            Due.due("digest(0, 0)", x.digest(0, 0), NONE);
            Due.due("delta()", x.delta(), 6);
            Due.dueCounts("no blocks", x, 0, 4, 1, 0, 0, 2, 4);
        });
        Due.edge("6: a signature of more blocks than the one before", () -> {
            int[] old = Due.mixed(600);
            Counted x = new Counted();
            Due.feed(x, 0, old);
            x.shape(256, 16);
            Due.due("sign()", x.sign(), 2);
            x.shape(1, 16);
            Due.due("sign()", x.sign(), 600);
            for (int block : new int[] {0, 1, 15, 16, 17, 255, 256, 511, 512, 599}) {
                Due.due("sum(" + block + ")", x.sum(block), 65537 * old[block]);
                Due.due("digest(" + block + ", 0)", x.digest(block, 0), Due.md5(old[block])[0]);
                Due.due("digest(" + block + ", 15)", x.digest(block, 15), Due.md5(old[block])[15]);
            }
        });
        Due.edge("6: a wider one: bytes that the one before did not keep", () -> {
            Counted x = Due.signed(4, 1, Due.bytes("abcd"), new int[0]);
            x.shape(4, 16);
            x.sign();
            int[] want = Due.md5(Due.bytes("abcd"));
            for (int k = 0; k < 16; k++) {
                Due.due("digest(0, " + k + ")", x.digest(0, k), want[k]);
            }
            x.shape(4, 2);
            x.sign();
            Due.due("digest(0, 1)", x.digest(0, 1), want[1]);
            Due.due("digest(0, 2)", x.digest(0, 2), NONE);
        });
        Due.edge("6: the old file as it was: later feeds, cuts and puts are not in it", () -> {
            Counted x = Due.signed(2, 4, Due.bytes("abcd"), Due.bytes("cdab"));
            x.put(0, 0, 'z');
            x.feed(0, 0x61616161);
            x.cut(0, 3);
            Due.due("count(4)", x.count(4), 2);
            Due.due("sum(0)", x.sum(0), Due.sumOf('a', 'b'));
            Due.due("sum(1)", x.sum(1), Due.sumOf('c', 'd'));
            Due.due("digest(1, 3)", x.digest(1, 3), Due.md5('c', 'd')[3]);
            Due.due("delta()", x.delta(), 8);
            Due.due("sign()", x.sign(), 1);
            Due.due("sum(0)", x.sum(0), Due.sumOf('z', 'b'));
        });
    }

    private static void sum() {
        Due.edge("7: the first and the last block; 0: none such", () -> {
            Counted x = Due.signed(2, 4, Due.bytes("abcdefg"), new int[0]);
            Due.due("sum(0)", x.sum(0), Due.sumOf('a', 'b'));
            Due.due("sum(2)", x.sum(2), Due.sumOf('e', 'f'));
            for (int block : new int[] {-1, 3, 4, 15, 16, 256, 2000, MIN, MAX}) {
                Due.due("sum(" + block + ")", x.sum(block), 0);
            }
        });
        Due.edge("7: 0: none such, of an object that has not signed", () -> {
            Counted x = new Counted();
            Due.feed(x, 0, Due.mixed(64));
            for (int block : new int[] {0, -1, 1}) {
                Due.due("sum(" + block + ")", x.sum(block), 0);
            }
        });
        Due.edge("7: a block of zeros has the sum 0 too", () -> {
            Counted x = Due.signed(4, 4, Due.repeated(0, 4), new int[0]);
            Due.due("sum(0)", x.sum(0), 0);
            Due.due("digest(0, 0)", x.digest(0, 0), Due.md5(0, 0, 0, 0)[0]);
        });
        for (int size : new int[] {15, 16, 22, 23, 181, 255, 256}) {
            Due.edge("7: modulo 65536 and an int: a block of " + size + " bytes of 255", () -> {
                Counted x = Due.signed(size, 1, Due.repeated(255, size), new int[0]);
                long b = 255L * size * (size + 1) / 2 % 65536;
                Due.due("sum(0)", x.sum(0), (int) (65536 * b + 255L * size));
            });
        }
        Due.edge("7: a sum is negative: B is 32768 just", () -> {
            int[] old = Due.repeated(0, 256);
            old[0] = 128;
            Counted x = Due.signed(256, 1, old, new int[0]);
            Due.due("sum(0)", x.sum(0), MIN + 128);
        });
    }

    private static void digest() {
        int[] want = Due.md5('c', 'd');
        for (int width = 1; width <= 16; width++) {
            int w = width;
            Due.edge("8: byte 0 to w - 1, w = " + w, () -> {
                Counted x = Due.signed(2, w, Due.bytes("abcde"), new int[0]);
                for (int k = 0; k < w; k++) {
                    Due.due("digest(1, " + k + ")", x.digest(1, k), want[k]);
                }
                for (int k : new int[] {w, w + 1, 15 + (w == 16 ? 1 : 0), 16, 17, -1, -w, MIN, MAX}) {
                    Due.due("digest(1, " + k + ")", x.digest(1, k), NONE);
                }
            });
        }
        Due.edge("8: NONE: no such block", () -> {
            Counted x = Due.signed(2, 16, Due.bytes("abcde"), new int[0]);
            for (int block : new int[] {-1, 2, 3, 15, 16, 2000, MIN, MAX}) {
                for (int k : new int[] {0, 15, 16, -1}) {
                    Due.due("digest(" + block + ", " + k + ")", x.digest(block, k), NONE);
                }
            }
        });
        Due.edge("8: NONE: of an object that has not signed", () -> {
            Counted x = new Counted();
            Due.feed(x, 0, Due.mixed(64));
            for (int k : new int[] {0, 7, 8, -1}) {
                Due.due("digest(0, " + k + ")", x.digest(0, k), NONE);
            }
        });
        Due.edge("8: the digests of two blocks stand apart, at the widest", () -> {
            Counted x = Due.signed(1, 16, new int[] {1, 2, 3}, new int[0]);
            for (int block = 0; block < 3; block++) {
                for (int k = 0; k < 16; k++) {
                    Due.due("digest(" + block + ", " + k + ")", x.digest(block, k), Due.md5(block + 1)[k]);
                }
            }
        });
    }

    private static void md5() {
        String[][] rfc = {
            {"", "d41d8cd98f00b204e9800998ecf8427e"},
            {"a", "0cc175b9c0f1b6a831c399e269772661"},
            {"abc", "900150983cd24fb0d6963f7d28e17f72"},
            {"message digest", "f96b697d7cb7938d525a2f31aaf161d0"},
            {"abcdefghijklmnopqrstuvwxyz", "c3fcd3d76192e4007dfb496cca67e13b"},
            {"ABCDEFGHIJKLMNOPQRSTUVWXYZabcdefghijklmnopqrstuvwxyz0123456789", "d174ab98d277d9f5a5611c2c9f419d9f"},
            {"12345678901234567890123456789012345678901234567890123456789012345678901234567890",
                "57edf4a22be3c955ac49da2e2107b67a"}
        };
        for (String[] r : rfc) {
            Due.edge("17: MD5 (RFC 1321) of '" + r[0] + "'", () -> {
                Counted x = new Counted();
                Due.feed(x, 0, Due.bytes(r[0]));
                Due.feed(x, 1, Due.bytes(r[0]));
                for (int k = 0; k < 16; k++) {
                    int want = Integer.parseInt(r[1].substring(2 * k, 2 * k + 2), 16);
                    Due.due("md5(0, " + k + ")", x.md5(0, k), want);
                    Due.due("md5(1, " + k + ")", x.md5(1, k), want);
                }
            });
        }
        Due.edge("17: NONE: no byte 0 .. 15", () -> {
            Counted x = Due.signed(2, 3, Due.bytes("abcd"), Due.bytes("ab"));
            for (int k : new int[] {-1, 16, 17, 255, MIN, MAX}) {
                Due.due("md5(0, " + k + ")", x.md5(0, k), NONE);
                Due.due("md5(1, " + k + ")", x.md5(1, k), NONE);
            }
        });
        Due.edge("17: NONE: no such file", () -> {
            Counted x = Due.told(2, 3, Due.bytes("abcd"), Due.bytes("ab"));
            x.apply();
            for (int file : new int[] {-1, 2, 3, 4, MIN, MAX}) {
                for (int k : new int[] {0, 15, 16, -1}) {
                    Due.due("md5(" + file + ", " + k + ")", x.md5(file, k), NONE);
                }
            }
        });
        Due.edge("17: all 16 bytes, whatever the width", () -> {
            Counted x = Due.signed(1, 1, Due.bytes("ab"), new int[0]);
            Due.due("md5(0, 15)", x.md5(0, 15), Due.md5('a', 'b')[15]);
        });
        Due.edge("17: of the file of now", () -> {
            Counted x = new Counted();
            Due.feed(x, 1, Due.bytes("abc"));
            x.put(1, 2, 'd');
            Due.due("put", x.md5(1, 3), Due.md5(Due.bytes("abd"))[3]);
            x.cut(1, 2);
            Due.due("cut", x.md5(1, 3), Due.md5(Due.bytes("ab"))[3]);
            x.feed(1, 0x7a7a7a7a);
            Due.due("fed", x.md5(1, 3), Due.md5(Due.bytes("abzzzz"))[3]);
        });
    }

    private static void md5Lengths() {
        int[] lengths = {
            0, 1, 54, 55, 56, 57, 62, 63, 64, 65, 118, 119, 120, 121, 127, 128, 129, 1983, 1984, 1999, 2000
        };
        for (int n : lengths) {
            Due.edge("17: a whole file of " + n + " bytes", () -> {
                int[] all = Due.mixed(n);
                int[] want = Due.md5(all);
                Counted x = null;
                for (int k = 0; k < 16; k++) {
                    if (x == null || x.left() == 0) {
                        x = new Counted();
                        Due.feed(x, 1, all);
                    }
                    Due.due("md5(1, " + k + ")", x.md5(1, k), want[k]);
                }
            });
        }
    }
}
