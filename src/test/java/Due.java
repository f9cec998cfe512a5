import java.util.Arrays;
import java.util.function.Supplier;

/** Counts the answers that are not due, and makes files and deltas for the tests. */
final class Due {
    private static int wrong = 0;
    private static int asked = 0;
    private static String sentence = "";

    private Due() {
    }

    static void due(String call, long got, long want) {
        asked++;
        if (got != want) {
            wrong++;
            System.out.println(sentence + call + " answered " + got + ", due is " + want);
        }
    }

    static void due(String call, boolean got, boolean want) {
        due(call, got ? 1L : 0L, want ? 1L : 0L);
    }

    /** One sentence of the document, or one boundary in it, with the calls that try it. */
    static void edge(String words, Runnable calls) {
        sentence = "[" + words + "] ";
        int before = asked;
        try {
            calls.run();
        } catch (RuntimeException e) {
            wrong++;
            System.out.println(sentence + "threw " + e);
        }
        if (asked == before) {
            wrong++;
            System.out.println(sentence + "asks nothing");
        }
        sentence = "";
    }

    /** All bytes of one of the four rows, and none behind them. */
    static void dueBytes(String what, Counted x, int which, int... want) {
        due(what + ": size(" + which + ")", x.size(which), want.length);
        for (int i = 0; i < want.length; i++) {
            due(what + ": at(" + which + ", " + i + ")", x.at(which, i), want[i]);
        }
        due(what + ": at(" + which + ", " + want.length + ")", x.at(which, want.length), DeltaSync.NONE);
    }

    /** The same of a row that is too long for the calls of one object: as many are made as it takes. */
    static void dueLongBytes(String what, Supplier<Counted> made, int which, int... want) {
        Counted x = made.get();
        due(what + ": size(" + which + ")", x.size(which), want.length);
        for (int i = 0; i <= want.length; i++) {
            x = x.left() == 0 ? made.get() : x;
            int b = i < want.length ? want[i] : DeltaSync.NONE;
            due(what + ": at(" + which + ", " + i + ")", x.at(which, i), b);
        }
    }

    static void dueCounts(String what, Counted x, int... want) {
        for (int i = 0; i < want.length; i++) {
            due(what + ": count(" + i + ")", x.count(i), want[i]);
        }
    }

    static void end(String name) {
        System.out.println(name + ": " + asked + " answers, " + wrong + " of them not as due");
        if (wrong != 0) {
            System.exit(1);
        }
    }

    /** Makes a file of exactly these bytes. */
    static void file(Counted x, int file, int... bytes) {
        x.cut(file, 0);
        feed(x, file, bytes);
    }

    /** Makes a file that is still empty one of exactly these bytes. */
    static void feed(Counted x, int file, int... bytes) {
        for (int i = 0; i < bytes.length; i += 4) {
            int v = 0;
            for (int k = 0; k < 4; k++) {
                v = (v << 8) | (i + k < bytes.length ? bytes[i + k] & 255 : 0);
            }
            x.feed(file, v);
        }
        if (bytes.length % 4 != 0) {
            x.cut(file, bytes.length);
        }
    }

    /** A new object with two files and the old one's signature. */
    static Counted signed(int size, int width, int[] old, int[] fresh) {
        Counted x = new Counted();
        feed(x, 0, old);
        feed(x, 1, fresh);
        x.shape(size, width);
        x.sign();
        return x;
    }

    /** The same with its delta. */
    static Counted told(int size, int width, int[] old, int[] fresh) {
        Counted x = signed(size, width, old, fresh);
        x.delta();
        return x;
    }

    /** A delta of exactly these bytes, pushed one by one. */
    static void deltaOf(Counted x, int... bytes) {
        x.keep(0);
        for (int b : bytes) {
            x.push(b);
        }
    }

    static int[] bytes(String text) {
        int[] all = new int[text.length()];
        for (int i = 0; i < all.length; i++) {
            all[i] = text.charAt(i);
        }
        return all;
    }

    static int[] repeated(int b, int n) {
        int[] all = new int[n];
        Arrays.fill(all, b);
        return all;
    }

    /** Bytes of which few stand in an order that comes again. */
    static int[] mixed(int n) {
        int[] all = new int[n];
        for (int i = 0; i < n; i++) {
            all[i] = (i * i * 31 + i * 7 + i / 256 * 101) & 255;
        }
        return all;
    }

    static int[] joined(int[]... parts) {
        int[] all = new int[0];
        for (int[] part : parts) {
            int start = all.length;
            all = Arrays.copyOf(all, start + part.length);
            System.arraycopy(part, 0, all, start, part.length);
        }
        return all;
    }

    static int[] part(int[] bytes, int from, int n) {
        return Arrays.copyOfRange(bytes, from, from + n);
    }

    /** The sum by the document's own words, without a wrap-around before the end. */
    static int sumOf(int... bytes) {
        long a = 0;
        long b = 0;
        for (int i = 0; i < bytes.length; i++) {
            a += bytes[i];
            b += (long) (bytes.length - i) * bytes[i];
        }
        return (int) (65536 * (b % 65536) + a % 65536);
    }

    static int[] md5(int... bytes) {
        byte[] all = new byte[bytes.length];
        for (int i = 0; i < all.length; i++) {
            all[i] = (byte) bytes[i];
        }
        try {
            byte[] digest = java.security.MessageDigest.getInstance("MD5").digest(all);
            int[] want = new int[16];
            for (int i = 0; i < 16; i++) {
                want[i] = digest[i] & 255;
            }
            return want;
        } catch (java.security.NoSuchAlgorithmException e) {
            throw new IllegalStateException(e);
        }
    }

    /** Two blocks of three bytes and of one sum, whose digests begin with the same byte or with another. */
    static int[][] pairByFirstByte(boolean alike) {
        for (int i = 0; i < 200 * 200; i++) {
            int[] one = {i % 200, 100, i / 200};
            int[] other = {one[0] + 1, 98, one[2] + 1};
            boolean first = md5(one)[0] == md5(other)[0];
            if (first == alike && md5(one)[1] != md5(other)[1]) {
                return new int[][] {one, other};
            }
        }
        throw new IllegalStateException("no such pair");
    }
}
