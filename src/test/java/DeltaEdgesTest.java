/** The boundaries in promises 9 and 19, one by one. */
public final class DeltaEdgesTest {
    private static final int MIN = Integer.MIN_VALUE, MAX = Integer.MAX_VALUE, NONE = DeltaSync.NONE;
    private static final int[] EMPTY = {};

    public static void main(String[] args) {
        emptyFiles();
        shortFiles();
        places();
        wraps();
        literalRows();
        referenceRows();
        rowsSideBySide();
        numbers();
        whichOfSeveral();
        sumAndDigest();
        bySignature();
        alarms();
        counts();
        Due.end("DeltaEdgesTest");
    }

    /** The delta that is due, and its numbers of references, literals, rows and alarms. */
    private static void dueDelta(Counted x, int[] counts, int... want) {
        Due.due("delta()", x.delta(), want.length);
        Due.dueBytes("delta", x, 2, want);
        Due.dueCounts("delta", x, counts);
    }

    private static int[] row(int first, int many) {
        return new int[] {1, first >> 8, first & 255, many};
    }

    private static int[] literals(int... bytes) {
        return Due.joined(new int[] {0, bytes.length}, bytes);
    }

    private static int[] counts(int references, int literals, int rows, int alarms) {
        return new int[] {references, literals, rows, alarms};
    }

    private static void emptyFiles() {
        Due.edge("9: both files are empty", () -> dueDelta(Due.signed(2, 16, EMPTY, EMPTY), counts(0, 0, 0, 0)));
        Due.edge("9: an empty new file", () ->
            dueDelta(Due.signed(2, 16, Due.bytes("abcd"), EMPTY), counts(0, 0, 0, 0)));
        Due.edge("9: an empty old file", () ->
            dueDelta(Due.signed(2, 16, EMPTY, Due.bytes("abc")), counts(0, 3, 1, 0), literals('a', 'b', 'c')));
        Due.edge("9: an empty old file and zeros, as sums of no blocks are 0", () ->
            dueDelta(Due.signed(2, 16, EMPTY, Due.repeated(0, 5)), counts(0, 5, 1, 0), literals(Due.repeated(0, 5))));
        Due.edge("9: an empty delta takes the place of another one", () -> {
            Counted x = Due.told(2, 16, Due.bytes("ab"), Due.bytes("abx"));
            x.cut(1, 0);
            dueDelta(x, counts(0, 0, 0, 0));
        });
    }

    private static void shortFiles() {
        int[] all = Due.mixed(256);
        for (int size : new int[] {1, 2, 16, 64, 255, 256}) {
            int[] block = Due.part(all, 0, size);
            Due.edge("9: a new file of just one block of " + size, () ->
                dueDelta(Due.signed(size, 16, block, block), counts(1, 0, 1, 0), row(0, 1)));
        }
        for (int size : new int[] {2, 16, 64, 255}) {
            int[] block = Due.part(all, 0, size);
            int[] less = Due.part(all, 0, size - 1);
            Due.edge("9: a new file one byte short of a block of " + size, () ->
                dueDelta(Due.signed(size, 16, block, less), counts(0, size - 1, 1, 0), literals(less)));
            Due.edge("9: an old file one byte short of a block of " + size, () ->
                dueDelta(Due.signed(size, 16, less, block), counts(0, size, 1, 0), literals(block)));
        }
        Due.edge("9: an old file one byte short of its second block", () ->
            dueDelta(Due.signed(3, 16, Due.bytes("abcde"), Due.bytes("deabc")), counts(1, 2, 2, 0),
                Due.joined(literals('d', 'e'), row(0, 1))));
    }

    private static void places() {
        int[] block = {200, 3, 255, 0, 17};
        for (int before = 0; before <= 12; before++) {
            int[] start = Due.repeated(9, before);
            int[] told = before == 0 ? EMPTY : literals(start);
            int rows = before == 0 ? 1 : 2;
            Due.edge("9: a block at the last byte, behind " + before + " others", () ->
                dueDelta(Due.signed(5, 16, block, Due.joined(start, block)), counts(1, start.length, rows, 0),
                    Due.joined(told, row(0, 1))));
            Due.edge("9: a block one byte short of the last byte, behind " + before + " others", () ->
                dueDelta(Due.signed(5, 16, block, Due.joined(start, block, new int[] {9})),
                    counts(1, start.length + 1, rows + 1, 0), Due.joined(told, row(0, 1), literals(9))));
            int[] cutOff = Due.joined(start, Due.part(block, 0, 4));
            Due.edge("9: a block whose last byte is not there, behind " + before + " others", () ->
                dueDelta(Due.signed(5, 16, block, cutOff), counts(0, cutOff.length, 1, 0), literals(cutOff)));
        }
        Due.edge("9: p goes on by b: a block that begins within one referred to is not seen", () ->
            dueDelta(Due.signed(2, 16, Due.bytes("abba"), Due.bytes("abab")), counts(2, 0, 2, 0),
                Due.joined(row(0, 1), row(0, 1))));
        Due.edge("9: p goes on by 1: behind a literal a block may begin at once", () ->
            dueDelta(Due.signed(2, 16, Due.bytes("abba"), Due.bytes("aabab")), counts(2, 1, 3, 0),
                Due.joined(literals('a'), row(0, 1), row(0, 1))));
        Due.edge("9: the sum of zeros is 0, at an end where a block is not there too", () ->
            dueDelta(Due.signed(4, 16, Due.repeated(0, 4), Due.repeated(0, 7)), counts(1, 3, 2, 0),
                Due.joined(row(0, 1), literals(0, 0, 0))));
        Due.edge("9: zeros alone, one byte short of a block", () ->
            dueDelta(Due.signed(4, 16, Due.repeated(0, 4), Due.repeated(0, 3)), counts(0, 3, 1, 0), literals(0, 0, 0)));
        Due.edge("9: zeros at the end, one byte short of a block, behind a literal", () ->
            dueDelta(Due.signed(4, 16, Due.repeated(0, 4), new int[] {5, 0, 0, 0}), counts(0, 4, 1, 0),
                literals(5, 0, 0, 0)));
    }

    // Sums that roll along wrap around as those of the signature do.
    private static void wraps() {
        int[] high = Due.mixed(256);
        for (int i = 0; i < high.length; i++) {
            high[i] = 255 - high[i] % 7;
        }
        for (int size : new int[] {22, 23, 100, 255, 256}) {
            int[] block = Due.part(high, 0, size);
            for (int before : new int[] {1, 2, 100}) {
                int[] start = Due.repeated(255, before);
                Due.edge("9: a sum that wraps around, a block of " + size + " behind " + before + " others", () ->
                    dueDelta(Due.signed(size, 16, block, Due.joined(start, block)), counts(1, before, 2, 0),
                        Due.joined(literals(start), row(0, 1))));
            }
        }
        Due.edge("9: B is 65536 more: one sum, so an alarm", () -> {
            int[] one = Due.repeated(0, 256);
            one[83] = 7;
            one[255] = 255;
            int[] other = Due.repeated(0, 256);
            other[0] = 255;
            other[10] = 7;
            Counted x = Due.told(256, 16, one, other);
            Due.due("sum(0)", x.sum(0), x.sumAt(1, 0, 256));
            Due.dueCounts("one alarm", x, 0, 256, 2, 1, 1, 256, 16);
        });
        Due.edge("9: B is one more: another sum, so none", () -> {
            int[] one = Due.repeated(0, 256);
            one[83] = 7;
            int[] other = Due.repeated(0, 256);
            other[82] = 1;
            other[83] = 6;
            Due.dueCounts("no alarm", Due.told(256, 16, one, other), 0, 256, 2, 0);
        });
        Due.edge("9: A is one more and B is not: another sum, so none", () ->
            dueDelta(Due.signed(3, 16, new int[] {1, 0, 0}, new int[] {0, 1, 1}), counts(0, 3, 1, 0), literals(0, 1, 1)));
    }

    private static void literalRows() {
        int[] fresh = Due.mixed(2000);
        for (int n : new int[] {1, 2, 254, 255, 256, 257, 509, 510, 511, 765, 766, 1999, 2000}) {
            Due.edge("9: literals in rows of at most 255: " + n, () -> {
                int[] all = Due.part(fresh, 0, n);
                int[] want = EMPTY;
                for (int from = 0; from < n; from += 255) {
                    want = Due.joined(want, literals(Due.part(all, from, Math.min(255, n - from))));
                }
                Due.dueLongBytes("literals", () -> Due.told(1, 16, EMPTY, all), 2, want);
                Due.dueCounts("literals", Due.told(1, 16, EMPTY, all), 0, n, (n + 254) / 255, 0, 0, 1, 16);
            });
        }
    }

    private static void referenceRows() {
        for (int n : new int[] {1, 2, 254, 255, 256, 257, 509, 510, 511, 765, 766}) {
            Due.edge("9: references in rows of at most 255: " + n, () -> {
                int[] want = EMPTY;
                for (int from = 0; from < n; from += 255) {
                    want = Due.joined(want, row(from, Math.min(255, n - from)));
                }
                int[] alike = Due.repeated(4, 800);
                Counted x = Due.told(1, 16, alike, Due.part(alike, 0, n));
                Due.dueBytes("references", x, 2, want);
                Due.dueCounts("references", x, n, 0, (n + 254) / 255, 0, 800, 1, 16);
                Due.due("apply()", x.apply(), n);
                Due.due("same()", x.same(), true);
            });
        }
        Due.edge("9: 256 references to blocks that are all different", () -> {
            int[] old = new int[512];
            for (int i = 0; i < 256; i++) {
                old[2 * i] = i;
                old[2 * i + 1] = 255 - i;
            }
            dueDelta(Due.signed(2, 16, old, old), counts(256, 0, 2, 0), Due.joined(row(0, 255), row(255, 1)));
        });
    }

    private static void rowsSideBySide() {
        int[] old = Due.repeated(4, 300);
        int[] nines = Due.repeated(9, 300);
        for (int n : new int[] {254, 255}) {
            int[] some = Due.part(nines, 0, n);
            int[] fours = Due.part(old, 0, n);
            Due.edge("9: " + n + " literals, then a reference: no row of 0", () ->
                dueDelta(Due.signed(1, 16, old, Due.joined(some, new int[] {4})), counts(1, n, 2, 0),
                    Due.joined(literals(some), row(0, 1))));
            Due.edge("9: " + n + " references, then a literal: no row of 0", () ->
                dueDelta(Due.signed(1, 16, old, Due.joined(fours, new int[] {9})), counts(n, 1, 2, 0),
                    Due.joined(row(0, n), literals(9))));
        }
        Due.edge("9: 256 literals, then a reference", () -> {
            int[] some = Due.part(nines, 0, 255);
            dueDelta(Due.signed(1, 16, new int[] {4}, Due.joined(some, new int[] {9, 4})), counts(1, 256, 3, 0),
                Due.joined(literals(some), literals(9), row(0, 1)));
        });
        Due.edge("9: a reference between literals: rows of their own, each counted from 1", () ->
            dueDelta(Due.signed(1, 16, new int[] {4}, new int[] {9, 9, 4, 9}), counts(1, 3, 3, 0),
                Due.joined(literals(9, 9), row(0, 1), literals(9))));
        Due.edge("9: a literal that is as the row's kinds are", () ->
            dueDelta(Due.signed(1, 16, new int[] {4}, new int[] {0, 1, 4, 1, 0}), counts(1, 4, 3, 0),
                Due.joined(literals(0, 1), row(0, 1), literals(1, 0))));
    }

    private static void numbers() {
        for (int block : new int[] {0, 1, 127, 128, 255, 256, 257, 511, 512, 1023, 1024, 1899}) {
            Due.edge("9: the first one's number in 2 bytes, the higher first: " + block, () -> {
                int[] old = new int[1900];
                old[block] = 77;
                Counted x = Due.signed(1, 16, old, new int[] {77});
                dueDelta(x, counts(1, 0, 1, 0), row(block, 1));
                Due.due("apply()", x.apply(), 1);
                Due.due("at(3, 0)", x.at(3, 0), 77);
            });
        }
        Due.edge("9: the number of the last block of a full file", () -> {
            int[] old = new int[2000];
            old[1999] = 77;
            Counted x = Due.signed(1, 16, old, new int[] {77});
            Due.due("delta()", x.delta(), 4);
            Due.due("at(2, 1)", x.at(2, 1), 7);
            Due.due("at(2, 2)", x.at(2, 2), 207);
            Due.due("apply()", x.apply(), 1);
            Due.due("same()", x.same(), true);
        });
        Due.edge("9: rising numbers over 255 in one row", () -> {
            int[] old = new int[300];
            for (int i = 0; i < 4; i++) {
                old[254 + i] = 50 + i;
            }
            dueDelta(Due.signed(1, 16, old, new int[] {50, 51, 52, 53}), counts(4, 0, 1, 0), row(254, 4));
        });
    }

    private static void whichOfSeveral() {
        int[] old = Due.bytes("ababcdabefab");
        Due.edge("9: of several: that of the least number at first", () ->
            dueDelta(Due.signed(2, 16, old, Due.bytes("ab")), counts(1, 0, 1, 0), row(0, 1)));
        Due.edge("9: of several: the one behind the block referred to last", () ->
            dueDelta(Due.signed(2, 16, old, Due.bytes("abab")), counts(2, 0, 1, 0), row(0, 2)));
        Due.edge("9: of several: the one behind, of a higher number than the least", () ->
            dueDelta(Due.signed(2, 16, old, Due.bytes("cdabefab")), counts(4, 0, 1, 0), row(2, 4)));
        Due.edge("9: of several: else the least, where the one behind is another block", () ->
            dueDelta(Due.signed(2, 16, old, Due.bytes("ababab")), counts(3, 0, 2, 0), Due.joined(row(0, 2), row(0, 1))));
        Due.edge("9: of several: the one behind the last block of all is none", () ->
            dueDelta(Due.signed(2, 16, old, Due.bytes("efabab")), counts(3, 0, 2, 0), Due.joined(row(4, 2), row(0, 1))));
        Due.edge("9: of several: a literal came between, so the least", () ->
            dueDelta(Due.signed(2, 16, old, Due.bytes("cdxab")), counts(2, 1, 3, 0),
                Due.joined(row(2, 1), literals('x'), row(0, 1))));
        Due.edge("9: of several: literals came between, at a row's most", () -> {
            int[] many = Due.repeated('x', 255);
            dueDelta(Due.signed(2, 16, old, Due.joined(Due.bytes("cd"), many, Due.bytes("ab"))), counts(2, 255, 3, 0),
                Due.joined(row(2, 1), literals(many), row(0, 1)));
        });
        Due.edge("9: a row's end at 255 is nothing that came between", () -> {
            Counted x = Due.told(1, 16, Due.repeated(4, 300), Due.repeated(4, 300));
            Due.dueBytes("two rows", x, 2, Due.joined(row(0, 255), row(255, 45)));
        });
        Due.edge("9: behind another reference the one behind that one is meant", () ->
            dueDelta(Due.signed(2, 16, old, Due.bytes("efcdab")), counts(3, 0, 2, 0), Due.joined(row(4, 1), row(2, 2))));
        Due.edge("9: the one behind follows a lone block too, without one of several before it", () ->
            dueDelta(Due.signed(1, 16, Due.bytes("abcb"), Due.bytes("cb")), counts(2, 0, 1, 0), row(2, 2)));
        Due.edge("9: of several: a new delta knows nothing of the block referred to last by the one before", () -> {
            Counted x = Due.told(2, 16, old, Due.bytes("cd"));
            Due.file(x, 1, Due.bytes("ab"));
            dueDelta(x, counts(1, 0, 1, 0), row(0, 1));
        });
        Due.edge("9: blocks of rising numbers do not come together where one is left out", () ->
            dueDelta(Due.signed(1, 16, Due.bytes("abc"), Due.bytes("ac")), counts(2, 0, 2, 0),
                Due.joined(row(0, 1), row(2, 1))));
        Due.edge("9: falling numbers, and the same one again, do not come together", () ->
            dueDelta(Due.signed(1, 16, Due.bytes("abc"), Due.bytes("cbaa")), counts(4, 0, 4, 0),
                Due.joined(row(2, 1), row(1, 1), row(0, 1), row(0, 1))));
        Due.edge("9: rising numbers do not come together over a literal", () ->
            dueDelta(Due.signed(1, 16, Due.bytes("ab"), Due.bytes("axb")), counts(2, 1, 3, 0),
                Due.joined(row(0, 1), literals('x'), row(1, 1))));
    }

    private static void sumAndDigest() {
        int[] one = {0, 4, 0};
        int[] two = {1, 2, 1};
        int[] three = {2, 0, 2};
        Due.edge("9: of blocks of one sum the one that has the digest", () -> {
            Counted x = Due.signed(3, 16, Due.joined(one, two, three), Due.joined(three, one, two));
            Due.due("one sum", x.sum(0) == x.sum(1) && x.sum(1) == x.sum(2), true);
            dueDelta(x, counts(3, 0, 2, 0), Due.joined(row(2, 1), row(0, 2)));
        });
        Due.edge("9: the one behind has the sum alone: it is not meant", () ->
            dueDelta(Due.signed(3, 16, Due.joined(one, two), Due.joined(one, one)), counts(2, 0, 2, 0),
                Due.joined(row(0, 1), row(0, 1))));
        int[][] alike = Due.pairByFirstByte(true);
        int[][] apart = Due.pairByFirstByte(false);
        Due.edge("9: the first w bytes of the digest alone: w = 1", () -> {
            Counted x = Due.signed(3, 1, alike[0], alike[1]);
            dueDelta(x, counts(1, 0, 1, 0), row(0, 1));
            Due.due("apply()", x.apply(), 3);
            Due.due("same()", x.same(), false);
            Due.dueBytes("the old block", x, 3, alike[0]);
        });
        Due.edge("9: the first w bytes of the digest: w = 2, where the second is another", () ->
            dueDelta(Due.signed(3, 2, alike[0], alike[1]), counts(0, 3, 1, 1), literals(alike[1])));
        Due.edge("9: the first w bytes of the digest: w = 1, where the first is another", () ->
            dueDelta(Due.signed(3, 1, apart[0], apart[1]), counts(0, 3, 1, 1), literals(apart[1])));
        Due.edge("9: w = 1: the least of two that pass for one", () ->
            dueDelta(Due.signed(3, 1, Due.joined(alike[0], alike[1]), alike[1]), counts(1, 0, 1, 0), row(0, 1)));
        Due.edge("9: w = 1: the one behind, of two that pass for one", () ->
            dueDelta(Due.signed(3, 1, Due.joined(alike[0], alike[1]), Due.joined(alike[0], alike[0])),
                counts(2, 0, 1, 0), row(0, 2)));
        Due.edge("9: the digest alone does not do: w = 1, another sum", () -> {
            int[] pair = singlesThatBeginAlike();
            dueDelta(Due.signed(1, 1, new int[] {pair[0]}, new int[] {pair[1]}), counts(0, 1, 1, 0), literals(pair[1]));
        });
    }

    /** Two single bytes whose digests begin with the same byte. */
    private static int[] singlesThatBeginAlike() {
        for (int a = 0; a < 256; a++) {
            for (int b = a + 1; b < 256; b++) {
                if (Due.md5(a)[0] == Due.md5(b)[0]) {
                    return new int[] {a, b};
                }
            }
        }
        throw new IllegalStateException("no such pair");
    }

    private static void bySignature() {
        Due.edge("9: by the signature alone: the old file was changed behind it", () -> {
            Counted x = Due.signed(2, 16, Due.bytes("abcd"), Due.bytes("cdab"));
            x.put(0, 0, 'z');
            x.cut(0, 1);
            dueDelta(x, counts(2, 0, 2, 0), Due.joined(row(1, 1), row(0, 1)));
        });
        Due.edge("9: by the signature alone: the old file has grown behind it", () -> {
            Counted x = Due.signed(2, 16, Due.bytes("abcd"), Due.bytes("efef"));
            x.feed(0, 0x65666566);
            dueDelta(x, counts(0, 4, 1, 0), literals('e', 'f', 'e', 'f'));
            Due.due("sign()", x.sign(), 4);
            dueDelta(x, counts(2, 0, 1, 0), row(2, 2));
        });
        Due.edge("9: the signature which was made last", () -> {
            Counted x = Due.signed(2, 16, Due.bytes("abcd"), Due.bytes("abcd"));
            Due.file(x, 0, Due.bytes("cdab"));
            x.sign();
            dueDelta(x, counts(2, 0, 2, 0), Due.joined(row(1, 1), row(0, 1)));
        });
        Due.edge("9: made anew each time: what was pushed and changed is gone", () -> {
            Counted x = Due.told(2, 16, Due.bytes("abcd"), Due.bytes("abx"));
            x.push(7);
            x.change(0, 9);
            dueDelta(x, counts(1, 1, 2, 0), Due.joined(row(0, 1), literals('x')));
            x.keep(1);
            dueDelta(x, counts(1, 1, 2, 0), Due.joined(row(0, 1), literals('x')));
        });
        Due.edge("9: the dearest delta: 2000 references, a row each", () -> {
            int[] fresh = Due.repeated(1, 2000);
            int[] old = {1, 2, 1, 2};
            Counted x = Due.signed(1, 16, old, fresh);
            Due.due("delta()", x.delta(), 8000);
            Due.dueCounts("dearest", x, 2000, 0, 2000, 0);
            Due.due("at(2, 7999)", x.at(2, 7999), 1);
            Due.due("at(2, 8000)", x.at(2, 8000), NONE);
            x = Due.told(1, 16, old, fresh);
            Due.due("at(2, 7996)", x.at(2, 7996), 1);
            Due.due("apply()", x.apply(), 2000);
            Due.due("same()", x.same(), true);
        });
    }

    private static void alarms() {
        int[] one = {0, 2, 0};
        int[] other = {1, 0, 1};
        Due.edge("19: some block had the sum, but none the digest", () ->
            dueDelta(Due.signed(3, 16, one, other), counts(0, 3, 1, 1), literals(other)));
        Due.edge("19: an alarm at each such place", () ->
            dueDelta(Due.signed(3, 16, one, Due.joined(other, other, one)), counts(1, 6, 2, 2),
                Due.joined(literals(Due.joined(other, other)), row(0, 1))));
        Due.edge("19: several blocks of the sum are one alarm", () ->
            dueDelta(Due.signed(3, 16, Due.joined(one, one, one), other), counts(0, 3, 1, 1), literals(other)));
        Due.edge("19: several blocks of the sum, each of its own digest, are one alarm", () ->
            dueDelta(Due.signed(3, 16, new int[] {0, 4, 0, 1, 2, 1}, new int[] {2, 0, 2}), counts(0, 3, 1, 1),
                literals(2, 0, 2)));
        Due.edge("19: no alarm where one of several has the digest", () ->
            dueDelta(Due.signed(3, 16, Due.joined(one, other), other), counts(1, 0, 1, 0), row(1, 1)));
        Due.edge("19: no alarm where no block has the sum", () ->
            dueDelta(Due.signed(3, 16, one, new int[] {1, 0, 2}), counts(0, 3, 1, 0), literals(1, 0, 2)));
        Due.edge("19: no alarm at a place within a block referred to", () ->
            dueDelta(Due.signed(3, 16, new int[] {7, 1, 0, 0, 2, 0}, new int[] {7, 1, 0, 1}), counts(1, 1, 2, 0),
                Due.joined(row(0, 1), literals(1))));
        Due.edge("19: no alarm where b bytes are not there", () ->
            dueDelta(Due.signed(3, 16, new int[] {0, 0, 0}, new int[] {5, 0, 0}), counts(0, 3, 1, 0), literals(5, 0, 0)));
        Due.edge("19: an alarm behind a reference, at the last place of all", () ->
            dueDelta(Due.signed(3, 16, one, Due.joined(one, other)), counts(1, 3, 2, 1),
                Due.joined(row(0, 1), literals(other))));
        Due.edge("19: an alarm at a place that is rolled to", () ->
            dueDelta(Due.signed(3, 16, one, Due.joined(new int[] {9}, other)), counts(0, 4, 1, 1),
                literals(Due.joined(new int[] {9}, other))));
        Due.edge("19: an alarm at the one behind, which has the sum alone", () ->
            dueDelta(Due.signed(3, 16, new int[] {7, 7, 7, 0, 2, 0}, new int[] {7, 7, 7, 1, 0, 1}), counts(1, 3, 2, 1),
                Due.joined(row(0, 1), literals(other))));
        Due.edge("19: no alarms before there is a signature", () -> {
            Counted x = new Counted();
            Due.feed(x, 0, Due.repeated(0, 16));
            Due.feed(x, 1, Due.repeated(0, 16));
            x.delta();
            Due.dueCounts("unsigned", x, 0, 16, 1, 0);
        });
    }

    private static void counts() {
        Due.edge("19: of the latest delta(): no delta was made", () -> {
            Counted x = Due.signed(2, 16, Due.bytes("abcd"), Due.bytes("cdx"));
            Due.dueCounts("no delta", x, 0, 0, 0, 0);
            Due.deltaOf(x, 1, 0, 0, 1);
            x.apply();
            Due.dueCounts("a pushed one", x, 0, 0, 0, 0);
        });
        Due.edge("19: of the latest delta(): what is done to it later changes nothing", () -> {
            Counted x = Due.told(2, 16, Due.bytes("abcd"), Due.bytes("cdx"));
            int[] want = {1, 1, 2, 0, 2, 2, 16};
            Due.dueCounts("told", x, want);
            x.push(0);
            x.change(0, 0);
            Due.dueCounts("pushed and changed", x, want);
            x.keep(0);
            Due.dueCounts("kept none", x, want);
            x.cut(1, 0);
            x.put(0, 0, 1);
            x.cut(0, 1);
            x.feed(1, 1);
            x.shape(7, 7);
            Due.dueCounts("other files, another shape", x, want);
            x.push(9);
            Due.due("apply()", x.apply(), DeltaSync.BAD);
            Due.dueCounts("applied badly", x, want);
        });
        Due.edge("19: of the latest delta(): counted anew each time", () -> {
            Counted x = Due.told(3, 16, new int[] {0, 2, 0}, new int[] {1, 0, 1, 0, 2, 0});
            int[] want = {1, 3, 2, 1};
            Due.dueCounts("once", x, want);
            x.delta();
            Due.dueCounts("again", x, want);
            x.cut(1, 2);
            x.delta();
            Due.dueCounts("another", x, 0, 2, 1, 0);
            x.cut(1, 0);
            x.delta();
            Due.dueCounts("an empty one", x, 0, 0, 0, 0);
        });
        Due.edge("19: rows, at 255 and 256", () -> {
            Due.due("255 literals", Due.told(1, 1, EMPTY, Due.repeated(1, 255)).count(2), 1);
            Due.due("256 literals", Due.told(1, 1, EMPTY, Due.repeated(1, 256)).count(2), 2);
            Due.due("255 references", Due.told(1, 1, Due.repeated(1, 300), Due.repeated(1, 255)).count(2), 1);
            Due.due("256 references", Due.told(1, 1, Due.repeated(1, 300), Due.repeated(1, 256)).count(2), 2);
        });
        Due.edge("19: blocks in the signature, its block size and its width, at their bounds", () -> {
            Due.dueCounts("least", Due.told(1, 1, new int[] {1}, EMPTY), 0, 0, 0, 0, 1, 1, 1);
            Due.dueCounts("most", Due.told(256, 16, Due.repeated(1, 512), EMPTY), 0, 0, 0, 0, 2, 256, 16);
        });
        Due.edge("19: NONE: another number", () -> {
            Counted x = Due.told(2, 16, Due.bytes("abcd"), Due.bytes("cdx"));
            for (int what : new int[] {-1, 7, 8, 16, 256, MIN, MAX}) {
                Due.due("count(" + what + ")", x.count(what), NONE);
            }
        });
    }
}
