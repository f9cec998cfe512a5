/** Counts the answers that are not due, and makes files for the tests. */
final class Due {
    private static int wrong = 0;
    private static int asked = 0;

    private Due() {
    }

    static void due(String call, long got, long want) {
        asked++;
        if (got != want) {
            wrong++;
            System.out.println(call + " answered " + got + ", due is " + want);
        }
    }

    static void due(String call, boolean got, boolean want) {
        due(call, got ? 1L : 0L, want ? 1L : 0L);
    }

    /** All bytes of one of the four rows, and none behind them. */
    static void dueBytes(String what, DeltaSync x, int which, int... want) {
        due(what + ": size(" + which + ")", x.size(which), want.length);
        for (int i = 0; i < want.length; i++) {
            due(what + ": at(" + which + ", " + i + ")", x.at(which, i), want[i]);
        }
        due(what + ": at(" + which + ", " + want.length + ")", x.at(which, want.length), DeltaSync.NONE);
    }

    static void end(String name) {
        System.out.println(name + ": " + asked + " answers, " + wrong + " of them not as due");
        if (wrong != 0) {
            System.exit(1);
        }
    }

    /** Makes a file of exactly these bytes. */
    static void file(DeltaSync x, int file, int... bytes) {
        x.cut(file, 0);
        for (int i = 0; i < bytes.length; i += 4) {
            int v = 0;
            for (int k = 0; k < 4; k++) {
                v = (v << 8) | (i + k < bytes.length ? bytes[i + k] & 255 : 0);
            }
            x.feed(file, v);
        }
        x.cut(file, bytes.length);
    }

    static int[] bytes(String text) {
        int[] all = new int[text.length()];
        for (int i = 0; i < all.length; i++) {
            all[i] = text.charAt(i);
        }
        return all;
    }

    static int[] repeated(int b, int n) {
        int[] all = new int[n];
        java.util.Arrays.fill(all, b);
        return all;
    }

    /** A delta of exactly these bytes, pushed one by one. */
    static void deltaOf(DeltaSync x, int... bytes) {
        x.keep(0);
        for (int b : bytes) {
            x.push(b);
        }
    }

    static int[] md5(int... bytes) {
        byte[] all = new byte[bytes.length];
        for (int i = 0; i < all.length; i++) {
            all[i] = (byte) bytes[i];
        }
        try {
            byte[] digest = java.security.MessageDigest.getInstance("MD5").digest(all);
            int[] want = new int[16];
            for (int i = 0; i < 16; i++) {
                want[i] = digest[i] & 255;
            }
            return want;
        } catch (java.security.NoSuchAlgorithmException e) {
            throw new IllegalStateException(e);
        }
    }
}
