import java.util.Random;

/** All promises: long runs of random calls, each answer compared with the model's. */
public final class RandomRunsTest {
    private static final int RUNS = 2000;
    // One turn makes so many calls at most.
    private static final int MOST_AT_ONCE = 12;
    private static final int[] WILD = {
        -1, -2, 0, 1, 2, 3, 4, 15, 16, 17, 255, 256, 257, 1999, 2000, 2001, 5999, 6000, 6001, 8000,
        65535, 65536, 1 << 24, Integer.MAX_VALUE, Integer.MAX_VALUE - 1, Integer.MIN_VALUE, Integer.MIN_VALUE + 1
    };

    private final Random random;
    private final Counted x = new Counted();
    private final Model model = new Model();
    private final int letters;
    private final int wildness;
    private final int feeds;

    private RandomRunsTest(long seed) {
        random = new Random(seed);
        letters = 1 + random.nextInt(random.nextBoolean() ? 3 : 256);
        wildness = random.nextInt(30);
        feeds = random.nextInt(200);
    }

    public static void main(String[] args) {
        for (int run = 0; run < RUNS; run++) {
            new RandomRunsTest(run).play(run);
        }
        Due.end("RandomRunsTest");
    }

    // The calls that are left behind the run read what it made.
    private void play(int run) {
        int kept = MOST_AT_ONCE + random.nextInt(200);
        for (int call = 0; x.left() >= kept; call++) {
            int kind = call < feeds && random.nextInt(8) != 0 ? 0 : random.nextInt(22);
            ask("run " + run + ", call " + call + ", ", kind);
        }
        while (x.left() > 0) {
            int which = random.nextInt(4);
            int i = random.nextInt(model.size(which) + 1);
            Due.due("run " + run + ": at(" + which + ", " + i + ")", x.at(which, i), model.at(which, i));
        }
    }

    private int number(int bound) {
        if (random.nextInt(100) < wildness) {
            return WILD[random.nextInt(WILD.length)];
        }
        return random.nextInt(Math.max(1, bound));
    }

    private int letter() {
        return random.nextInt(100) < wildness ? number(256) : random.nextInt(letters);
    }

    private int word() {
        int v = 0;
        for (int k = 0; k < 4; k++) {
            v = (v << 8) | random.nextInt(letters);
        }
        return v;
    }

    private void ask(String where, int kind) {
        int a;
        int b;
        int c;
        switch (kind) {
            case 0:
                a = number(2);
                b = word();
                Due.due(where + "feed(" + a + ", " + b + ")", x.feed(a, b), model.feed(a, b));
                break;
            case 1:
                a = number(2);
                b = Math.max(0, model.size(a)) - random.nextInt(6);
                b = random.nextInt(100) < wildness ? number(2000) : b;
                Due.due(where + "cut(" + a + ", " + b + ")", x.cut(a, b), model.cut(a, b));
                break;
            case 2:
                a = number(2);
                b = number(model.size(a));
                c = letter();
                Due.due(where + "put(" + a + ", " + b + ", " + c + ")", x.put(a, b, c), model.put(a, b, c));
                break;
            case 3:
                a = 1 + number(random.nextInt(6) == 0 ? 257 : 6);
                b = 1 + number(16);
                Due.due(where + "shape(" + a + ", " + b + ")", x.shape(a, b), model.shape(a, b));
                break;
            case 4:
                Due.due(where + "sign()", x.sign(), model.sign());
                break;
            case 5:
                a = number(model.count(4) + 1);
                Due.due(where + "sum(" + a + ")", x.sum(a), model.sum(a));
                break;
            case 6:
                a = number(model.count(4) + 1);
                b = number(17);
                Due.due(where + "digest(" + a + ", " + b + ")", x.digest(a, b), model.digest(a, b));
                break;
            case 7:
                Due.due(where + "delta()", x.delta(), model.delta());
                for (int many = 0; many < MOST_AT_ONCE - 1; many++) {
                    int i = many < 5 ? many : random.nextInt(model.size(2) + 1);
                    Due.due(where + "at(2, " + i + ")", x.at(2, i), model.at(2, i));
                }
                break;
            case 8:
            case 9:
                Due.due(where + "apply()", x.apply(), model.apply());
                break;
            case 10:
                a = number(4);
                b = number(model.size(a) + 1);
                Due.due(where + "at(" + a + ", " + b + ")", x.at(a, b), model.at(a, b));
                break;
            case 11:
                a = number(5);
                Due.due(where + "size(" + a + ")", x.size(a), model.size(a));
                break;
            case 12:
                a = number(model.size(2));
                b = random.nextInt(3) == 0 ? number(256) : number(4);
                Due.due(where + "change(" + a + ", " + b + ")", x.change(a, b), model.change(a, b));
                break;
            case 13:
                a = random.nextInt(3) == 0 ? number(256) : number(4);
                Due.due(where + "push(" + a + ")", x.push(a), model.push(a));
                break;
            case 14:
                a = random.nextBoolean() ? number(model.size(2) + 1) : model.size(2) - random.nextInt(5);
                Due.due(where + "keep(" + a + ")", x.keep(a), model.keep(a));
                break;
            case 15:
                a = number(2);
                b = number(model.size(a) + 1);
                c = number(model.size(a) + 2 - Math.max(0, Math.min(b, 2000)));
                Due.due(where + "sumAt(" + a + ", " + b + ", " + c + ")", x.sumAt(a, b, c), model.sumAt(a, b, c));
                break;
            case 16:
                a = number(2);
                b = number(17);
                Due.due(where + "md5(" + a + ", " + b + ")", x.md5(a, b), model.md5(a, b));
                break;
            case 17:
                Due.due(where + "same()", x.same(), model.same());
                break;
            case 18:
                a = number(8);
                Due.due(where + "count(" + a + ")", x.count(a), model.count(a));
                break;
            case 19:
                row();
                break;
            default:
                Due.due(where + "delta()", x.delta(), model.delta());
                Due.due(where + "apply()", x.apply(), model.apply());
                Due.due(where + "same()", x.same(), model.same());
                for (int what = 0; what < 7; what++) {
                    Due.due(where + "count(" + what + ")", x.count(what), model.count(what));
                }
                break;
        }
    }

    private void row() {
        int n = 1 + random.nextInt(3);
        int[] references = {1, 0, random.nextInt(Math.max(1, Math.min(256, model.count(4)))), n};
        int[] literals = {0, 1, random.nextInt(256)};
        for (int b : random.nextBoolean() ? references : literals) {
            Due.due("push(" + b + ")", x.push(b), model.push(b));
        }
    }
}
