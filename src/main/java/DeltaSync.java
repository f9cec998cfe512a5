import java.util.Arrays;

/** Two files, the old one's signature, the delta that tells the new one by it, and the delta's result. */
public final class DeltaSync {
    public static final int NONE = -1, BAD = -2;

    private static final int OLD = 0, NEW = 1, DELTA = 2, RESULT = 3;
    private static final int LITERALS = 0, REFERENCES = 1;

    private static final int FILE_ROOM = 2000;
    // The dearest delta is of 2000 references of one byte each, none behind the other: rows of 4 bytes.
    private static final int DELTA_ROOM = 4 * FILE_ROOM;
    // The document bounds what push makes, not what delta makes.
    private static final int PUSH_ROOM = 6000;

    private static final int MOST_BLOCK_SIZE = 256, FIRST_BLOCK_SIZE = 16;
    private static final int DIGEST_SIZE = 16, FIRST_WIDTH = 8;
    private static final int MOST_IN_A_ROW = 255;

    private final Row oldFile;
    private final Row newFile;
    private final Row told;
    private final Row result;
    private final Md5 hasher;
    private final Signature signature;
    private final Teller teller;
    private int nextBlockSize;
    private int nextWidth;

    public DeltaSync() {
        oldFile = new Row(FILE_ROOM);
        newFile = new Row(FILE_ROOM);
        told = new Row(DELTA_ROOM);
        result = new Row(FILE_ROOM);
        hasher = new Md5();
        signature = new Signature();
        teller = new Teller(newFile, told, signature, hasher);
        nextBlockSize = FIRST_BLOCK_SIZE;
        nextWidth = FIRST_WIDTH;
    }

    public int feed(int file, int v) {
        Row row = fileOf(file);
        if (row == null || row.room() < 4) {
            return NONE;
        }
        for (int shift = 24; shift >= 0; shift -= 8) {
            row.add((v >>> shift) & 255);
        }
        return row.length();
    }

    public boolean cut(int file, int n) {
        Row row = fileOf(file);
        return row != null && row.shorten(n);
    }

    public boolean put(int file, int i, int b) {
        Row row = fileOf(file);
        return row != null && row.set(i, b);
    }

    public boolean shape(int size, int width) {
        if (size < 1 || size > MOST_BLOCK_SIZE || width < 1 || width > DIGEST_SIZE) {
            return false;
        }
        nextBlockSize = size;
        nextWidth = width;
        return true;
    }

    public int sign() {
        signature.make(oldFile, nextBlockSize, nextWidth, hasher);
        return signature.blocks();
    }

    public int sum(int block) {
        return signature.sumOf(block);
    }

    public int digest(int block, int k) {
        return signature.digestByte(block, k);
    }

    public int delta() {
        teller.tell();
        return told.length();
    }

    public int apply() {
        result.clear();
        if (!allRowsApplied()) {
            result.clear();
            return BAD;
        }
        return result.length();
    }

    public int at(int which, int i) {
        Row row = rowOf(which);
        return row == null ? NONE : row.get(i);
    }

    public int size(int which) {
        Row row = rowOf(which);
        return row == null ? NONE : row.length();
    }

    public boolean change(int i, int b) {
        return told.set(i, b);
    }

    public boolean push(int b) {
        return told.length() < PUSH_ROOM && told.add(b);
    }

    public boolean keep(int n) {
        return told.shorten(n);
    }

    public int sumAt(int file, int i, int n) {
        Row row = fileOf(file);
        return row == null ? 0 : row.sumFrom(i, n);
    }

    public int md5(int file, int k) {
        Row row = fileOf(file);
        if (row == null || k < 0 || k >= DIGEST_SIZE) {
            return NONE;
        }
        hasher.take(row, 0, row.length());
        return hasher.digestByte(k);
    }

    public boolean same() {
        return result.equalTo(newFile);
    }

    public int count(int what) {
        switch (what) {
            case 0: return teller.references();
            case 1: return teller.literals();
            case 2: return teller.rows();
            case 3: return teller.alarms();
            case 4: return signature.blocks();
            case 5: return signature.blockSize();
            case 6: return signature.width();
            default: return NONE;
        }
    }

    private Row fileOf(int file) {
        return file == OLD || file == NEW ? rowOf(file) : null;
    }

    private Row rowOf(int which) {
        switch (which) {
            case OLD: return oldFile;
            case NEW: return newFile;
            case DELTA: return told;
            case RESULT: return result;
            default: return null;
        }
    }

    private boolean allRowsApplied() {
        int end = told.length();
        int place = 0;
        // A row has more than one byte, so the bytes bound the turns.
        for (int turn = 0; turn < end && place < end; turn++) {
            int taken = applyRow(place);
            if (taken == BAD) {
                return false;
            }
            place += taken;
        }
        return true;
    }

    /** How many bytes of the delta the row at a place has, or BAD. */
    private int applyRow(int place) {
        switch (told.get(place)) {
            case LITERALS: return applyLiterals(place);
            case REFERENCES: return applyReferences(place);
            default: return BAD;
        }
    }

    private int applyLiterals(int place) {
        // A missing byte reads as NONE, which is below 1 too.
        int many = told.get(place + 1);
        if (many < 1 || !result.addFrom(told, place + 2, many)) {
            return BAD;
        }
        return 2 + many;
    }

    private int applyReferences(int place) {
        if (!told.holds(place, 4)) {
            return BAD;
        }
        int first = told.get(place + 1) * 256 + told.get(place + 2);
        int many = told.get(place + 3);
        int blockSize = signature.blockSize();
        if (many < 1 || !result.addFrom(oldFile, first * blockSize, many * blockSize)) {
            return BAD;
        }
        return 4;
    }

    /** Bytes in a row, up to a number of them. */
    private static final class Row {
        private static final int FIRST_CELLS = 64;

        private final int most;
        // It grows by doubling: most objects stay small, and all of a run's objects share one room.
        private int[] cells;
        private int used;

        Row(int most) {
            this.most = most;
            cells = new int[FIRST_CELLS];
            used = 0;
        }

        int length() {
            return used;
        }

        int room() {
            return most - used;
        }

        void clear() {
            used = 0;
        }

        boolean holds(int from, int n) {
            return from >= 0 && n >= 0 && from <= used && n <= used - from;
        }

        int get(int i) {
            return i >= 0 && i < used ? cells[i] : NONE;
        }

        boolean set(int i, int b) {
            if (i < 0 || i >= used || !isByte(b)) {
                return false;
            }
            cells[i] = b;
            return true;
        }

        boolean add(int b) {
            if (used >= most || !isByte(b)) {
                return false;
            }
            makeCells(used + 1);
            cells[used] = b;
            used++;
            return true;
        }

        boolean addFrom(Row other, int from, int n) {
            if (!other.holds(from, n) || n > room()) {
                return false;
            }
            makeCells(used + n);
            System.arraycopy(other.cells, from, cells, used, n);
            used += n;
            return true;
        }

        boolean shorten(int n) {
            if (n < 0 || n > used) {
                return false;
            }
            used = n;
            return true;
        }

        boolean equalTo(Row other) {
            if (used != other.used) {
                return false;
            }
            for (int i = 0; i < used; i++) {
                if (cells[i] != other.cells[i]) {
                    return false;
                }
            }
            return true;
        }

        int sumFrom(int from, int n) {
            if (!holds(from, n)) {
                return 0;
            }
            int a = 0;
            int b = 0;
            for (int i = 0; i < n; i++) {
                a += cells[from + i];
                // Adding up the A so far counts byte i once for each of the n - i bytes from it on.
                b += a;
            }
            return joined(a, b);
        }

        static int joined(int a, int b) {
            return (b << 16) | (a & 0xffff);
        }

        private static boolean isByte(int b) {
            return b >= 0 && b <= 255;
        }

        private void makeCells(int wanted) {
            if (wanted > cells.length) {
                cells = Arrays.copyOf(cells, Math.max(wanted, Math.min(most, 2 * cells.length)));
            }
        }
    }

    /** MD5 (RFC 1321) of some bytes of a row; the digest stands until the next bytes are taken. */
    private static final class Md5 {
        private static final int[] SINES = {
            0xd76aa478, 0xe8c7b756, 0x242070db, 0xc1bdceee,
            0xf57c0faf, 0x4787c62a, 0xa8304613, 0xfd469501,
            0x698098d8, 0x8b44f7af, 0xffff5bb1, 0x895cd7be,
            0x6b901122, 0xfd987193, 0xa679438e, 0x49b40821,
            0xf61e2562, 0xc040b340, 0x265e5a51, 0xe9b6c7aa,
            0xd62f105d, 0x02441453, 0xd8a1e681, 0xe7d3fbc8,
            0x21e1cde6, 0xc33707d6, 0xf4d50d87, 0x455a14ed,
            0xa9e3e905, 0xfcefa3f8, 0x676f02d9, 0x8d2a4c8a,
            0xfffa3942, 0x8771f681, 0x6d9d6122, 0xfde5380c,
            0xa4beea44, 0x4bdecfa9, 0xf6bb4b60, 0xbebfbc70,
            0x289b7ec6, 0xeaa127fa, 0xd4ef3085, 0x04881d05,
            0xd9d4d039, 0xe6db99e5, 0x1fa27cf8, 0xc4ac5665,
            0xf4292244, 0x432aff97, 0xab9423a7, 0xfc93a039,
            0x655b59c3, 0x8f0ccc92, 0xffeff47d, 0x85845dd1,
            0x6fa87e4f, 0xfe2ce6e0, 0xa3014314, 0x4e0811a1,
            0xf7537e82, 0xbd3af235, 0x2ad7d2bb, 0xeb86d391
        };
        private static final int[] TURNS = {
            7, 12, 17, 22, 5, 9, 14, 20, 4, 11, 16, 23, 6, 10, 15, 21
        };
        private static final int CHUNK = 64;

        private final int[] words;
        private final int[] state;

        Md5() {
            words = new int[16];
            state = new int[4];
        }

        void take(Row row, int from, int n) {
            state[0] = 0x67452301;
            state[1] = 0xefcdab89;
            state[2] = 0x98badcfe;
            state[3] = 0x10325476;
            if (!row.holds(from, n)) {
                return;
            }
            // Behind the bytes there is one mark and eight bytes that tell their length.
            int chunks = (n + 8) / CHUNK + 1;
            for (int c = 0; c < chunks; c++) {
                fillWords(row, from, n, c * CHUNK);
                if (c == chunks - 1) {
                    words[14] = n << 3;
                    words[15] = n >>> 29;
                }
                mixWords();
            }
        }

        int digestByte(int k) {
            return k >= 0 && k < DIGEST_SIZE ? (state[k >> 2] >>> (8 * (k & 3))) & 255 : NONE;
        }

        private void fillWords(Row row, int from, int n, int start) {
            Arrays.fill(words, 0);
            int here = Math.min(n - start, CHUNK);
            for (int i = 0; i < here; i++) {
                words[i >> 2] |= row.get(from + start + i) << (8 * (i & 3));
            }
            if (here >= 0 && here < CHUNK) {
                words[here >> 2] |= 128 << (8 * (here & 3));
            }
        }

        private void mixWords() {
            int a = state[0];
            int b = state[1];
            int c = state[2];
            int d = state[3];
            for (int i = 0; i < 64; i++) {
                int round = i >> 4;
                int x = a + mixed(round, b, c, d) + SINES[i] + words[wordFor(round, i)];
                int turn = TURNS[4 * round + (i & 3)];
                a = d;
                d = c;
                c = b;
                b += (x << turn) | (x >>> (32 - turn));
            }
            state[0] += a;
            state[1] += b;
            state[2] += c;
            state[3] += d;
        }

        private static int mixed(int round, int b, int c, int d) {
            switch (round) {
                case 0: return (b & c) | (~b & d);
                case 1: return (b & d) | (c & ~d);
                case 2: return b ^ c ^ d;
                default: return c ^ (b | ~d);
            }
        }

        private static int wordFor(int round, int i) {
            switch (round) {
                case 0: return i & 15;
                case 1: return (5 * i + 1) & 15;
                case 2: return (3 * i + 5) & 15;
                default: return (7 * i) & 15;
            }
        }
    }

    /** The sums and the digests' first bytes of a file's blocks, as they were when it was made. */
    private static final class Signature {
        private static final int CHAINS = 256, FIRST_BLOCKS = 16;

        private int blockSize;
        private int width;
        private int blocks;
        private int[] sums;
        private byte[] digests;
        // Blocks whose sums fall together hang in a chain, by rising numbers: the least one is met first.
        private final int[] heads;
        private int[] nexts;

        Signature() {
            blockSize = FIRST_BLOCK_SIZE;
            width = FIRST_WIDTH;
            blocks = 0;
            sums = new int[FIRST_BLOCKS];
            digests = new byte[FIRST_BLOCKS * DIGEST_SIZE];
            nexts = new int[FIRST_BLOCKS];
            heads = new int[CHAINS];
            Arrays.fill(heads, NONE);
        }

        int blocks() {
            return blocks;
        }

        int blockSize() {
            return blockSize;
        }

        int width() {
            return width;
        }

        int sumOf(int block) {
            return has(block) ? sums[block] : 0;
        }

        int digestByte(int block, int k) {
            return has(block) && k >= 0 && k < width ? digests[block * DIGEST_SIZE + k] & 255 : NONE;
        }

        void make(Row file, int newBlockSize, int newWidth, Md5 hasher) {
            if (newBlockSize < 1) {
                return;
            }
            blockSize = newBlockSize;
            width = newWidth;
            blocks = file.length() / newBlockSize;
            makeRoom();
            for (int block = 0; block < blocks; block++) {
                int from = block * blockSize;
                sums[block] = file.sumFrom(from, blockSize);
                hasher.take(file, from, blockSize);
                for (int k = 0; k < DIGEST_SIZE; k++) {
                    digests[block * DIGEST_SIZE + k] = (byte) hasher.digestByte(k);
                }
            }
            chainBlocks();
        }

        boolean hasSum(int sum) {
            return has(firstInChain(heads[chainOf(sum)], sum));
        }

        /** The block that has the sum and the hasher's digest: the favoured one, else the least; or NONE. */
        int find(int sum, Md5 hasher, int favoured) {
            if (has(favoured) && sums[favoured] == sum && hasDigest(favoured, hasher)) {
                return favoured;
            }
            int block = firstInChain(heads[chainOf(sum)], sum);
            for (int turn = 0; turn < blocks && has(block); turn++) {
                if (hasDigest(block, hasher)) {
                    return block;
                }
                block = firstInChain(nexts[block], sum);
            }
            return NONE;
        }

        private boolean has(int block) {
            return block >= 0 && block < blocks;
        }

        private int firstInChain(int start, int sum) {
            int block = start;
            for (int turn = 0; turn < blocks && has(block); turn++) {
                if (sums[block] == sum) {
                    return block;
                }
                block = nexts[block];
            }
            return NONE;
        }

        private boolean hasDigest(int block, Md5 hasher) {
            for (int k = 0; k < width; k++) {
                if (digestByte(block, k) != hasher.digestByte(k)) {
                    return false;
                }
            }
            return true;
        }

        private void makeRoom() {
            if (blocks > sums.length) {
                int room = Math.max(blocks, Math.min(FILE_ROOM, 2 * sums.length));
                sums = new int[room];
                digests = new byte[room * DIGEST_SIZE];
                nexts = new int[room];
            }
        }

        private void chainBlocks() {
            Arrays.fill(heads, NONE);
            for (int block = blocks - 1; block >= 0; block--) {
                int chain = chainOf(sums[block]);
                nexts[block] = heads[chain];
                heads[chain] = block;
            }
        }

        private static int chainOf(int sum) {
            // The odd factor brings differences of any bit up to the eight highest, which name the chain.
            return (sum * 0x9e3779b1) >>> 24;
        }
    }

    /** Tells the new file by the signature: it writes the delta's rows and counts what it wrote. */
    private static final class Teller {
        private final Row source;
        private final Row target;
        private final Signature signature;
        private final Md5 hasher;
        private int references;
        private int literals;
        private int rows;
        private int alarms;
        // The row that may still grow: how many it has, and where in the target that is told.
        private int inRow;
        private int inRowAt;
        // The block referred to last, NONE as soon as a literal comes behind it.
        private int lastBlock;

        Teller(Row source, Row target, Signature signature, Md5 hasher) {
            this.source = source;
            this.target = target;
            this.signature = signature;
            this.hasher = hasher;
            startAnew();
        }

        int references() {
            return references;
        }

        int literals() {
            return literals;
        }

        int rows() {
            return rows;
        }

        int alarms() {
            return alarms;
        }

        void tell() {
            target.clear();
            startAnew();
            int size = signature.blockSize();
            int end = source.length();
            int place = 0;
            int sum = source.sumFrom(0, size);
            // Each turn goes on by a byte at least.
            for (int turn = 0; turn < end && place < end; turn++) {
                int block = source.holds(place, size) ? blockFor(place, size, sum) : NONE;
                if (block == NONE) {
                    writeLiteral(source.get(place));
                    sum = rolled(sum, place, size);
                    place++;
                } else {
                    writeReference(block);
                    place += size;
                    sum = source.sumFrom(place, size);
                }
            }
        }

        private void startAnew() {
            references = 0;
            literals = 0;
            rows = 0;
            alarms = 0;
            inRow = 0;
            inRowAt = 0;
            lastBlock = NONE;
        }

        private int blockFor(int place, int size, int sum) {
            if (!signature.hasSum(sum)) {
                return NONE;
            }
            hasher.take(source, place, size);
            int favoured = lastBlock == NONE ? NONE : lastBlock + 1;
            int block = signature.find(sum, hasher, favoured);
            if (block == NONE) {
                alarms++;
            }
            return block;
        }

        /** The sum of the bytes from the next place on; of no meaning where they are not all there. */
        private int rolled(int sum, int place, int size) {
            if (!source.holds(place, size + 1)) {
                return 0;
            }
            int leaving = source.get(place);
            int a = (sum & 0xffff) - leaving + source.get(place + size);
            int b = (sum >>> 16) - size * leaving + a;
            return Row.joined(a, b);
        }

        private void writeLiteral(int b) {
            boolean goesOn = lastBlock == NONE && inRow > 0 && inRow < MOST_IN_A_ROW;
            if (goesOn) {
                growRow();
            } else {
                target.add(LITERALS);
                openRow();
            }
            target.add(b);
            literals++;
            lastBlock = NONE;
        }

        private void writeReference(int block) {
            boolean goesOn = lastBlock != NONE && block == lastBlock + 1 && inRow < MOST_IN_A_ROW;
            if (goesOn) {
                growRow();
            } else {
                target.add(REFERENCES);
                target.add(block >> 8);
                target.add(block & 255);
                openRow();
            }
            references++;
            lastBlock = block;
        }

        private void openRow() {
            inRow = 1;
            inRowAt = target.length();
            target.add(inRow);
            rows++;
        }

        private void growRow() {
            inRow++;
            target.set(inRowAt, inRow);
        }
    }
}
