/** The boundaries in promises 1 to 4, 11, 12 and 16, one by one. */
public final class FileEdgesTest {
    private static final int MIN = Integer.MIN_VALUE, MAX = Integer.MAX_VALUE, NONE = DeltaSync.NONE;
    private static final int[] NO_FILES = {-1, 2, 3, 4, 256, MIN, MAX};

    public static void main(String[] args) {
        newObject();
        feed();
        fullFiles();
        cut();
        put();
        at();
        size();
        sumAt();
        wrappingSums();
        Due.end("FileEdgesTest");
    }

    private static void newObject() {
        Due.edge("1: empty files, an empty delta and result", () -> {
            Counted x = new Counted();
            for (int which = 0; which < 4; which++) {
                Due.dueBytes("new", x, which);
            }
        });
        Due.edge("1: no signature: of no blocks", () -> {
            Counted x = new Counted();
            Due.due("sum(0)", x.sum(0), 0);
            Due.due("digest(0, 0)", x.digest(0, 0), NONE);
            Due.due("count(4)", x.count(4), 0);
        });
        Due.edge("1: of the block size 16, of the first width", () -> {
            Counted x = new Counted();
            Due.due("count(5)", x.count(5), 16);
            Due.due("count(6)", x.count(6), 8);
        });
        Due.edge("1: no signature, though the old file has blocks: literals alone", () -> {
            Counted x = new Counted();
            Due.feed(x, 0, Due.repeated(0, 32));
            Due.feed(x, 1, Due.repeated(0, 17));
            Due.due("delta()", x.delta(), 19);
            Due.dueCounts("unsigned", x, 0, 17, 1, 0, 0, 16, 8);
            Due.dueBytes("unsigned", x, 2, Due.joined(new int[] {0, 17}, Due.repeated(0, 17)));
        });
        Due.edge("1: no signature: to apply goes by blocks of 16", () -> {
            int[] old = Due.mixed(35);
            Counted x = new Counted();
            Due.feed(x, 0, old);
            Due.deltaOf(x, 1, 0, 1, 1);
            Due.due("apply()", x.apply(), 16);
            Due.dueBytes("block 1", x, 3, Due.part(old, 16, 16));
            x.change(2, 2);
            Due.due("apply() of block 2, which is not all there", x.apply(), DeltaSync.BAD);
        });
        Due.edge("1: an empty delta and result: what the calls make of them", () -> {
            Counted x = new Counted();
            Due.due("same()", x.same(), true);
            Due.due("apply()", x.apply(), 0);
            Due.due("sign()", x.sign(), 0);
            Due.due("delta()", x.delta(), 0);
            Due.due("apply()", x.apply(), 0);
            Due.due("same()", x.same(), true);
            Due.dueCounts("new", x, 0, 0, 0, 0, 0, 16, 8);
        });
        Due.edge("1: a new object has nothing of another one", () -> {
            Counted other = Due.told(2, 3, Due.bytes("abcd"), Due.bytes("cdab"));
            other.apply();
            Counted x = new Counted();
            Due.dueBytes("new", x, 0);
            Due.dueBytes("new", x, 1);
            Due.dueBytes("new", x, 2);
            Due.dueBytes("new", x, 3);
            Due.dueCounts("new", x, 0, 0, 0, 0, 0, 16, 8);
            x.feed(0, 1);
            x.feed(1, 1);
            x.sign();
            x.delta();
            Due.dueBytes("the other one", other, 0, 'a', 'b', 'c', 'd');
            Due.dueBytes("the other one", other, 3, 'c', 'd', 'a', 'b');
            Due.due("the other one's sum(1)", other.sum(1), Due.sumOf('c', 'd'));
            Due.dueCounts("the other one", other, 2, 0, 2, 0, 2, 2, 3);
        });
    }

    private static void feed() {
        for (int file = 0; file < 2; file++) {
            int f = file;
            Due.edge("2: four bytes, the highest first, file " + f, () -> {
                Counted x = new Counted();
                Due.due("feed 01020304", x.feed(f, 0x01020304), 4);
                Due.due("feed 0", x.feed(f, 0), 8);
                Due.due("feed -1", x.feed(f, -1), 12);
                Due.due("feed MIN", x.feed(f, MIN), 16);
                Due.due("feed MAX", x.feed(f, MAX), 20);
                Due.dueBytes("fed", x, f, 1, 2, 3, 4, 0, 0, 0, 0, 255, 255, 255, 255, 128, 0, 0, 0, 127, 255, 255, 255);
                Due.dueBytes("the other file", x, 1 - f);
            });
            Due.edge("2: they come behind a file of any length, file " + f, () -> {
                Counted x = new Counted();
                for (int n = 1; n < 8; n++) {
                    x.cut(f, 0);
                    x.feed(f, 0x0a0b0c0d);
                    x.feed(f, 0x0e0f1011);
                    x.cut(f, n);
                    Due.due("feed behind " + n, x.feed(f, 0x01020304), n + 4);
                    for (int i = 0; i < n + 4; i++) {
                        Due.due("at(" + i + ")", x.at(f, i), i < n ? 10 + i : i - n + 1);
                    }
                }
            });
        }
        Due.edge("2: NONE: no such file", () -> {
            for (int file : NO_FILES) {
                Counted x = new Counted();
                Due.due("feed(" + file + ", 1)", x.feed(file, 1), NONE);
                for (int which = 0; which < 4; which++) {
                    Due.due("size(" + which + ")", x.size(which), 0);
                }
            }
        });
    }

    private static void fullFiles() {
        int[] full = Due.mixed(2000);
        for (int file = 0; file < 2; file++) {
            int f = file;
            Due.edge("2: up to 2000 bytes, file " + f, () -> {
                Counted x = new Counted();
                for (int i = 1; i <= 500; i++) {
                    Due.due("feed no. " + i, x.feed(f, i), 4 * i);
                }
                Due.due("the last byte", x.at(f, 1999), 500 & 255);
            });
            for (int room = 0; room < 4; room++) {
                int n = 2000 - room;
                Due.edge("2: NONE: room for " + room + " bytes alone, file " + f, () -> {
                    Counted x = new Counted();
                    Due.feed(x, f, full);
                    x.cut(f, n);
                    Due.due("feed at " + n, x.feed(f, 0x01010101), NONE);
                    Due.due("size", x.size(f), n);
                    Due.due("the last byte", x.at(f, n - 1), full[n - 1]);
                    Due.due("behind it", x.at(f, n), NONE);
                    Due.due("feed the other file", x.feed(1 - f, 1), 4);
                });
            }
            Due.edge("2: room for just four bytes, file " + f, () -> {
                Counted x = new Counted();
                Due.feed(x, f, Due.part(full, 0, 1996));
                Due.due("feed at 1996", x.feed(f, 0x01020304), 2000);
                Due.due("at(1995)", x.at(f, 1995), full[1995]);
                Due.due("at(1996)", x.at(f, 1996), 1);
                Due.due("at(1999)", x.at(f, 1999), 4);
                Due.due("at(2000)", x.at(f, 2000), NONE);
                Due.due("put the last byte", x.put(f, 1999, 9), true);
                Due.due("put behind it", x.put(f, 2000, 9), false);
                Due.due("cut to one more", x.cut(f, 2001), false);
                Due.due("cut to all", x.cut(f, 2000), true);
                Due.due("at(1999)", x.at(f, 1999), 9);
            });
            Due.edge("2: a file that is cut has room again, file " + f, () -> {
                Counted x = new Counted();
                Due.feed(x, f, full);
                Due.due("full", x.feed(f, 1), NONE);
                x.cut(f, 1993);
                Due.due("feed at 1993", x.feed(f, 0x01020304), 1997);
                Due.due("feed at 1997", x.feed(f, 0x05060708), NONE);
                x.cut(f, 0);
                Due.due("feed at 0", x.feed(f, 0x05060708), 4);
            });
        }
    }

    private static void cut() {
        for (int file = 0; file < 2; file++) {
            int f = file;
            Due.edge("3: the first n bytes alone, of each n, file " + f, () -> {
                for (int n = 0; n <= 5; n++) {
                    Counted x = new Counted();
                    Due.feed(x, f, 1, 2, 3, 4, 5);
                    Due.feed(x, 1 - f, 9, 8, 7);
                    Due.due("cut to " + n, x.cut(f, n), true);
                    Due.dueBytes("cut", x, f, Due.part(new int[] {1, 2, 3, 4, 5}, 0, n));
                    Due.dueBytes("the other file", x, 1 - f, 9, 8, 7);
                }
            });
            Due.edge("3: False: it has fewer, file " + f, () -> {
                Counted x = new Counted();
                Due.feed(x, f, 1, 2, 3, 4, 5);
                x.feed(1 - f, 1);
                x.feed(1 - f, 1);
                for (int n : new int[] {6, 7, 8, 2000, 2001, MAX}) {
                    Due.due("cut to " + n, x.cut(f, n), false);
                }
                Due.dueBytes("uncut", x, f, 1, 2, 3, 4, 5);
            });
            Due.edge("3: False: it has fewer since it was cut, file " + f, () -> {
                Counted x = new Counted();
                Due.feed(x, f, 1, 2, 3, 4, 5);
                x.cut(f, 2);
                Due.due("cut to 3", x.cut(f, 3), false);
                Due.dueBytes("cut", x, f, 1, 2);
            });
            Due.edge("3: False: n is below 0, file " + f, () -> {
                Counted x = new Counted();
                Due.feed(x, f, 1, 2, 3);
                for (int n : new int[] {-1, -2, -3, -2000, MIN, MIN + 1}) {
                    Due.due("cut to " + n, x.cut(f, n), false);
                }
                Due.dueBytes("uncut", x, f, 1, 2, 3);
            });
            Due.edge("3: an empty file, file " + f, () -> {
                Counted x = new Counted();
                Due.due("cut to 0", x.cut(f, 0), true);
                Due.due("cut to 1", x.cut(f, 1), false);
                Due.due("cut to -1", x.cut(f, -1), false);
                Due.dueBytes("empty", x, f);
            });
        }
        Due.edge("3: False: none such", () -> {
            Counted x = Due.told(2, 3, Due.bytes("abcd"), Due.bytes("cdab"));
            x.apply();
            for (int file : NO_FILES) {
                for (int n : new int[] {0, 1, 4, 8, -1}) {
                    Due.due("cut(" + file + ", " + n + ")", x.cut(file, n), false);
                }
            }
            for (int which = 0; which < 4; which++) {
                Due.due("size(" + which + ")", x.size(which), which == 2 ? 8 : 4);
            }
        });
    }

    private static void put() {
        for (int file = 0; file < 2; file++) {
            int f = file;
            Due.edge("4: the first, a middle and the last byte, file " + f, () -> {
                Counted x = new Counted();
                Due.feed(x, f, 1, 2, 3, 4, 5);
                Due.feed(x, 1 - f, 1, 2, 3, 4, 5);
                Due.due("put 0", x.put(f, 0, 200), true);
                Due.due("put 2", x.put(f, 2, 0), true);
                Due.due("put 4", x.put(f, 4, 255), true);
                Due.dueBytes("put", x, f, 200, 2, 0, 4, 255);
                Due.dueBytes("the other file", x, 1 - f, 1, 2, 3, 4, 5);
            });
            Due.edge("4: the bytes 0 and 255, and the one that stood there, file " + f, () -> {
                Counted x = new Counted();
                Due.feed(x, f, 7);
                for (int b : new int[] {0, 0, 255, 255, 1, 254, 127, 128}) {
                    Due.due("put " + b, x.put(f, 0, b), true);
                    Due.due("at(0)", x.at(f, 0), b);
                }
            });
            Due.edge("4: False: not 0 .. 255, file " + f, () -> {
                Counted x = new Counted();
                Due.feed(x, f, 7, 8);
                for (int b : new int[] {-1, 256, 257, -128, -255, -256, 65536, MIN, MAX}) {
                    Due.due("put " + b, x.put(f, 1, b), false);
                }
                Due.dueBytes("not put", x, f, 7, 8);
            });
            Due.edge("4: False: no such byte, file " + f, () -> {
                Counted x = new Counted();
                Due.feed(x, f, 7, 8);
                for (int i : new int[] {-1, 2, 3, 63, 64, 1999, 2000, 2001, MIN, MAX}) {
                    Due.due("put at " + i, x.put(f, i, 1), false);
                }
                Due.dueBytes("not put", x, f, 7, 8);
            });
            Due.edge("4: False: an empty file, and bytes cut off, file " + f, () -> {
                Counted x = new Counted();
                Due.due("put at 0", x.put(f, 0, 1), false);
                Due.feed(x, f, 7, 8);
                x.cut(f, 1);
                Due.due("put at 1", x.put(f, 1, 1), false);
                Due.dueBytes("cut", x, f, 7);
                x.cut(f, 0);
                Due.due("put at 0", x.put(f, 0, 1), false);
                Due.dueBytes("empty", x, f);
            });
        }
        Due.edge("4: False: no such file", () -> {
            Counted x = Due.told(2, 3, Due.bytes("abcd"), Due.bytes("cdab"));
            x.apply();
            for (int file : NO_FILES) {
                Due.due("put(" + file + ", 0, 9)", x.put(file, 0, 9), false);
            }
            Due.dueBytes("old", x, 0, 'a', 'b', 'c', 'd');
            Due.dueBytes("new", x, 1, 'c', 'd', 'a', 'b');
            Due.dueBytes("delta", x, 2, 1, 0, 1, 1, 1, 0, 0, 1);
            Due.dueBytes("result", x, 3, 'c', 'd', 'a', 'b');
        });
    }

    private static Counted fourRows() {
        Counted x = Due.told(2, 3, new int[] {255, 128, 0}, new int[] {255, 128, 127, 200, 1});
        x.apply();
        return x;
    }

    private static void at() {
        int[] fresh = {255, 128, 127, 200, 1};
        int[][] rows = {{255, 128, 0}, fresh, {1, 0, 0, 1, 0, 3, 127, 200, 1}, fresh};
        for (int which = 0; which < 4; which++) {
            int w = which;
            Due.edge("11: the first to the last byte, 0 .. 255, of " + w, () ->
                Due.dueBytes("row", fourRows(), w, rows[w]));
            Due.edge("11: NONE: no such byte of " + w, () -> {
                Counted x = fourRows();
                int n = rows[w].length;
                for (int i : new int[] {-1, n, n + 1, 63, 64, 1999, 2000, 8000, MIN, MAX}) {
                    Due.due("at(" + w + ", " + i + ")", x.at(w, i), NONE);
                }
            });
            Due.edge("11: NONE: an empty one, " + w, () -> {
                Counted x = new Counted();
                for (int i : new int[] {0, -1, 1}) {
                    Due.due("at(" + w + ", " + i + ")", x.at(w, i), NONE);
                }
            });
        }
        Due.edge("11: NONE: another number", () -> {
            Counted x = fourRows();
            for (int which : new int[] {-1, 4, 5, 256, MIN, MAX}) {
                Due.due("at(" + which + ", 0)", x.at(which, 0), NONE);
            }
        });
        Due.edge("11: NONE: bytes that are gone", () -> {
            Counted x = fourRows();
            x.cut(0, 2);
            x.cut(1, 4);
            x.keep(4);
            x.apply();
            Due.dueBytes("old", x, 0, 255, 128);
            Due.dueBytes("new", x, 1, 255, 128, 127, 200);
            Due.dueBytes("delta", x, 2, 1, 0, 0, 1);
            Due.dueBytes("result", x, 3, 255, 128);
        });
    }

    private static void size() {
        Due.edge("12: how many bytes such a one has", () -> {
            Counted x = fourRows();
            int[] sizes = {3, 5, 9, 5};
            for (int which = 0; which < 4; which++) {
                Due.due("size(" + which + ")", x.size(which), sizes[which]);
            }
        });
        Due.edge("12: NONE: another number", () -> {
            Counted x = fourRows();
            for (int which : new int[] {-1, 4, 5, 256, MIN, MAX}) {
                Due.due("size(" + which + ")", x.size(which), NONE);
            }
        });
    }

    private static void sumAt() {
        for (int file = 0; file < 2; file++) {
            int f = file;
            Due.edge("16: n bytes from one on, each n and each place, file " + f, () -> {
                int[] all = {200, 0, 1, 255, 3, 9};
                Counted x = new Counted();
                Due.feed(x, f, all);
                Due.feed(x, 1 - f, 1, 1, 1, 1, 1, 1, 1, 1);
                for (int i = 0; i <= 6; i++) {
                    for (int n = 0; n <= 6 - i; n++) {
                        int want = Due.sumOf(Due.part(all, i, n));
                        Due.due("sumAt(" + f + ", " + i + ", " + n + ")", x.sumAt(f, i, n), want);
                    }
                    Due.due("sumAt(" + f + ", " + i + "), one more", x.sumAt(f, i, 7 - i), 0);
                }
            });
            Due.edge("16: 0: not all are there, file " + f, () -> {
                Counted x = new Counted();
                Due.feed(x, f, 5, 6, 7);
                Due.feed(x, 1 - f, 1, 1, 1, 1, 1, 1, 1, 1);
                int[][] wrong = {
                    {0, 4}, {1, 3}, {2, 2}, {3, 1}, {4, 0}, {-1, 1}, {-1, 2}, {-1, 4}, {0, -1}, {3, -1}, {4, -1}, {2, -2},
                    {0, MAX}, {1, MAX}, {3, MAX}, {MAX, 1}, {MAX, MAX}, {MAX, MIN}, {MIN, 1}, {MIN, MAX}, {MIN, MIN},
                    {-2, MAX}, {0, MIN}, {2000, 1}, {0, 2000}
                };
                for (int[] w : wrong) {
                    Due.due("sumAt(" + f + ", " + w[0] + ", " + w[1] + ")", x.sumAt(f, w[0], w[1]), 0);
                }
            });
            Due.edge("16: 0: an empty file, and bytes cut off, file " + f, () -> {
                Counted x = new Counted();
                Due.due("of none", x.sumAt(f, 0, 0), 0);
                Due.due("of one", x.sumAt(f, 0, 1), 0);
                Due.feed(x, f, 5, 6, 7);
                x.cut(f, 2);
                Due.due("to the cut", x.sumAt(f, 0, 2), Due.sumOf(5, 6));
                Due.due("beyond the cut", x.sumAt(f, 0, 3), 0);
                Due.due("behind the cut", x.sumAt(f, 2, 1), 0);
            });
        }
        Due.edge("16: 0: no such file", () -> {
            Counted x = fourRows();
            for (int file : NO_FILES) {
                Due.due("sumAt(" + file + ", 0, 1)", x.sumAt(file, 0, 1), 0);
            }
        });
        Due.edge("16: the file of now, not the one that was signed", () -> {
            Counted x = fourRows();
            x.put(0, 0, 1);
            Due.due("sumAt(0, 0, 2)", x.sumAt(0, 0, 2), Due.sumOf(1, 128));
            Due.due("sum(0)", x.sum(0), Due.sumOf(255, 128));
        });
    }

    private static void wrappingSums() {
        Due.edge("16: A modulo 65536: 257 bytes of 255 make 65535, 258 make 254", () -> {
            Counted x = new Counted();
            Due.feed(x, 0, Due.repeated(255, 1000));
            Due.due("A of 257", x.sumAt(0, 0, 257) & 0xffff, 65535);
            Due.due("A of 258", x.sumAt(0, 0, 258) & 0xffff, 254);
            for (int n : new int[] {256, 257, 258, 259, 514, 515, 999, 1000}) {
                Due.due("sumAt(0, 0, " + n + ")", x.sumAt(0, 0, n), Due.sumOf(Due.repeated(255, n)));
            }
        });
        Due.edge("16: A is 65536 just: 0, and carries nothing to B", () -> {
            Counted x = new Counted();
            int[] all = Due.joined(Due.repeated(255, 257), new int[] {1});
            Due.feed(x, 1, all);
            Due.due("A", x.sumAt(1, 0, 258) & 0xffff, 0);
            Due.due("sumAt(1, 0, 258)", x.sumAt(1, 0, 258), Due.sumOf(all));
        });
        Due.edge("16: B modulo 65536: 22 bytes of 255 make 64515, 23 make 4844", () -> {
            Counted x = new Counted();
            Due.feed(x, 0, Due.repeated(255, 40));
            Due.due("B of 22", x.sumAt(0, 0, 22) >>> 16, 64515);
            Due.due("B of 23", x.sumAt(0, 0, 23) >>> 16, 4844);
            Due.due("A of 23", x.sumAt(0, 0, 23) & 0xffff, 5865);
        });
        Due.edge("16: B is 65535, and 65536 just", () -> {
            // 256 times 255 and 1 time 255; then 1 more.
            int[] all = Due.repeated(0, 256);
            all[0] = 255;
            all[255] = 255;
            Counted x = new Counted();
            Due.feed(x, 0, all);
            Due.due("65535", x.sumAt(0, 0, 256), 0xffff0000 + 510);
            x.put(0, 254, 1);
            x.put(0, 255, 254);
            Due.due("65536", x.sumAt(0, 0, 256), 510);
        });
        Due.edge("16: an int: B from 32768 on makes it negative", () -> {
            Counted x = new Counted();
            int[] all = Due.repeated(0, 256);
            all[0] = 127;
            all[1] = 1;
            Due.feed(x, 0, all);
            Due.due("32767", x.sumAt(0, 0, 256), 32767 * 65536 + 128);
            x.put(0, 255, 1);
            Due.due("32768", x.sumAt(0, 0, 256), MIN + 129);
        });
        Due.edge("16: the sum of a whole full file", () -> {
            int[] all = Due.mixed(2000);
            Counted x = new Counted();
            Due.feed(x, 0, all);
            Due.due("sumAt(0, 0, 2000)", x.sumAt(0, 0, 2000), Due.sumOf(all));
            Due.due("sumAt(0, 1999, 1)", x.sumAt(0, 1999, 1), Due.sumOf(all[1999]));
            Due.due("sumAt(0, 1, 1999)", x.sumAt(0, 1, 1999), Due.sumOf(Due.part(all, 1, 1999)));
            Due.due("sumAt(0, 0, 2001)", x.sumAt(0, 0, 2001), 0);
            Due.due("sumAt(0, 1, 2000)", x.sumAt(0, 1, 2000), 0);
            Due.due("sumAt(0, 2000, 1)", x.sumAt(0, 2000, 1), 0);
        });
    }
}
