import java.util.ArrayList;
import java.util.LinkedHashMap;
import java.util.List;
import java.util.Map;
import java.util.function.Supplier;
import java.util.function.ToIntFunction;

/** What is left behind each call: a refused one and one that reads leave all, the others leave all but their own. */
public final class StateTest {
    private static final int MIN = Integer.MIN_VALUE, MAX = Integer.MAX_VALUE;
    private static final int NONE = DeltaSync.NONE, FALSE = 0, TRUE = 1;
    private static final int[] OLD = Due.bytes("abcdabefgh1"), FRESH = Due.bytes("cdabxefbcyzgh");

    private static final Map<String, Supplier<Counted>> STATES = new LinkedHashMap<>();
    private static final Map<String, ToIntFunction<Counted>> CALLS = new LinkedHashMap<>();

    public static void main(String[] args) {
        states();
        refusedCalls();
        readingCalls();
        fullOnes();
        ownParts();
        Due.end("StateTest");
    }

    private static void states() {
        STATES.put("new", Counted::new);
        STATES.put("fed", StateTest::fed);
        STATES.put("signed", () -> Due.signed(2, 3, OLD, FRESH));
        STATES.put("told", () -> Due.told(2, 3, OLD, FRESH));
        STATES.put("applied", StateTest::applied);
        STATES.put("applied badly", StateTest::appliedBadly);
        STATES.put("all changed behind it", StateTest::changed);
    }

    private static Counted fed() {
        Counted x = new Counted();
        Due.feed(x, 0, OLD);
        Due.feed(x, 1, FRESH);
        return x;
    }

    private static Counted applied() {
        Counted x = Due.told(2, 3, OLD, FRESH);
        x.apply();
        return x;
    }

    private static Counted appliedBadly() {
        Counted x = applied();
        x.push(7);
        x.apply();
        return x;
    }

    // The signature, the delta, the result and the next shape are each of another time.
    private static Counted changed() {
        Counted x = applied();
        x.shape(3, 5);
        x.cut(0, 9);
        x.put(0, 0, 255);
        x.cut(1, 6);
        x.keep(8);
        x.push(1);
        x.change(1, 9);
        return x;
    }

    private static int truth(boolean b) {
        return b ? TRUE : FALSE;
    }

    private static void refusedCalls() {
        refusedOfFiles();
        refusedFor(NONE, "at(%d, 0)", new int[] {-1, 4, MIN, MAX}, (x, n) -> x.at(n, 0));
        for (int which = 0; which < 4; which++) {
            int w = which;
            refusedFor(NONE, "at(" + w + ", %d)", new int[] {-1, MIN, MAX}, (x, n) -> x.at(w, n));
            refused("at(" + w + ", its size)", x -> x.at(w, x.size(w)), NONE);
        }
        refusedFor(NONE, "size(%d)", new int[] {-1, 4, MIN, MAX}, (x, n) -> x.size(n));
        refusedFor(NONE, "count(%d)", new int[] {-1, 7, MIN, MAX}, (x, n) -> x.count(n));
        refusedFor(FALSE, "shape(%d, 2)", new int[] {0, 257, -1, MIN, MAX}, (x, n) -> truth(x.shape(n, 2)));
        refusedFor(FALSE, "shape(2, %d)", new int[] {0, 17, -1, MIN, MAX}, (x, n) -> truth(x.shape(2, n)));
        refusedFor(0, "sum(%d)", new int[] {-1, MIN, MAX}, (x, n) -> x.sum(n));
        refused("sum(the blocks)", x -> x.sum(x.count(4)), 0);
        refusedFor(NONE, "digest(%d, 0)", new int[] {-1, MIN, MAX}, (x, n) -> x.digest(n, 0));
        refused("digest(the blocks, 0)", x -> x.digest(x.count(4), 0), NONE);
        refusedFor(NONE, "digest(0, %d)", new int[] {-1, 16, MIN, MAX}, (x, n) -> x.digest(0, n));
        refused("digest(0, the width)", x -> x.digest(0, x.count(6)), NONE);
        refusedFor(FALSE, "change(0, %d)", new int[] {-1, 256, MIN, MAX}, (x, n) -> truth(x.change(0, n)));
        refusedFor(FALSE, "change(%d, 1)", new int[] {-1, MIN, MAX}, (x, n) -> truth(x.change(n, 1)));
        refused("change(its size, 1)", x -> truth(x.change(x.size(2), 1)), FALSE);
        refusedFor(FALSE, "push(%d)", new int[] {-1, 256, MIN, MAX}, (x, n) -> truth(x.push(n)));
        refusedFor(FALSE, "keep(%d)", new int[] {-1, MIN, MAX}, (x, n) -> truth(x.keep(n)));
        refused("keep(its size and 1)", x -> truth(x.keep(x.size(2) + 1)), FALSE);
    }

    private static void refusedOfFiles() {
        int[] no = {-1, 2, 3, MIN, MAX};
        refusedFor(NONE, "feed(%d, 1)", no, (x, n) -> x.feed(n, 1));
        refusedFor(FALSE, "cut(%d, 0)", no, (x, n) -> truth(x.cut(n, 0)));
        refusedFor(FALSE, "put(%d, 0, 1)", no, (x, n) -> truth(x.put(n, 0, 1)));
        refusedFor(0, "sumAt(%d, 0, 1)", no, (x, n) -> x.sumAt(n, 0, 1));
        refusedFor(NONE, "md5(%d, 0)", no, (x, n) -> x.md5(n, 0));
        for (int file = 0; file < 2; file++) {
            int f = file;
            String of = "(" + f + ", ";
            refusedFor(FALSE, "cut" + of + "%d)", new int[] {-1, MIN, MAX}, (x, n) -> truth(x.cut(f, n)));
            refused("cut" + of + "its size and 1)", x -> truth(x.cut(f, x.size(f) + 1)), FALSE);
            refusedFor(FALSE, "put" + of + "%d, 1)", new int[] {-1, MIN, MAX}, (x, n) -> truth(x.put(f, n, 1)));
            refused("put" + of + "its size, 1)", x -> truth(x.put(f, x.size(f), 1)), FALSE);
            refusedFor(FALSE, "put" + of + "0, %d)", new int[] {-1, 256, MIN, MAX}, (x, n) -> truth(x.put(f, 0, n)));
            refusedFor(0, "sumAt" + of + "%d, 1)", new int[] {-1, MIN, MAX}, (x, n) -> x.sumAt(f, n, 1));
            refusedFor(0, "sumAt" + of + "0, %d)", new int[] {-1, MIN, MAX}, (x, n) -> x.sumAt(f, 0, n));
            refused("sumAt" + of + "1, its size)", x -> x.sumAt(f, 1, x.size(f)), 0);
            refusedFor(NONE, "md5" + of + "%d)", new int[] {-1, 16, MIN, MAX}, (x, n) -> x.md5(f, n));
        }
    }

    private interface Asked {
        int of(Counted x, int n);
    }

    private static void refusedFor(int want, String name, int[] numbers, Asked call) {
        for (int n : numbers) {
            refused(String.format(name, n), x -> call.of(x, n), want);
        }
    }

    /** The answer, and that the object, in each state, is what it was, and goes on as it would have. */
    private static void refused(String name, ToIntFunction<Counted> call, int want) {
        STATES.forEach((state, made) -> Due.edge("refused: " + name + ", " + state, () -> {
            Due.due(name, call.applyAsInt(made.get()), want);
            leavesAll(made, call);
        }));
    }

    private static void leavesAll(Supplier<Counted> made, ToIntFunction<Counted> call) {
        dueAlike("state", made.get(), touched(made, call));
        dueAlike("state behind apply()", goneOn(made.get(), false), goneOn(touched(made, call), false));
        dueAlike("state behind sign()", goneOn(made.get(), true), goneOn(touched(made, call), true));
    }

    private static Counted touched(Supplier<Counted> made, ToIntFunction<Counted> call) {
        Counted x = made.get();
        call.applyAsInt(x);
        return x;
    }

    private static Counted goneOn(Counted x, boolean anew) {
        if (anew) {
            x.sign();
            x.delta();
        }
        x.apply();
        x.push(5);
        x.feed(0, 0x01020304);
        x.feed(1, 0x05060708);
        return x;
    }

    private static void dueAlike(String what, Counted one, Counted other) {
        Map<String, List<Integer>> want = parts(one);
        Map<String, List<Integer>> got = parts(other);
        want.forEach((part, all) -> {
            boolean alike = all.equals(got.get(part));
            Due.due(what + ": the " + part + " is " + got.get(part) + ", was " + all, alike, true);
        });
    }

    /** All that can be seen of an object, part by part. */
    private static Map<String, List<Integer>> parts(Counted x) {
        Map<String, List<Integer>> all = new LinkedHashMap<>();
        String[] rows = {"old file", "new file", "delta", "result"};
        for (int which = 0; which < 4; which++) {
            all.put(rows[which], row(x, which));
        }
        List<Integer> signature = new ArrayList<>();
        for (int what = 4; what < 7; what++) {
            signature.add(x.count(what));
        }
        for (int block = 0; block <= signature.get(0); block++) {
            signature.add(x.sum(block));
            for (int k = 0; k <= Math.min(2, signature.get(2)); k++) {
                signature.add(x.digest(block, k));
            }
        }
        all.put("signature", signature);
        List<Integer> counts = new ArrayList<>();
        for (int what = 0; what < 4; what++) {
            counts.add(x.count(what));
        }
        all.put("counts", counts);
        return all;
    }

    // Of a long row both ends are enough: 512 calls are soon used up.
    private static List<Integer> row(Counted x, int which) {
        List<Integer> all = new ArrayList<>();
        int size = x.size(which);
        all.add(size);
        for (int i = 0; i <= size; i++) {
            if (size < 60 || i < 2 || i > size - 2) {
                all.add(x.at(which, i));
            }
        }
        return all;
    }

    private static void readingCalls() {
        for (int n = 0; n < 8; n++) {
            int k = n;
            reads("at(" + k % 4 + ", " + k / 4 + ")", x -> x.at(k % 4, k / 4));
            reads("size(" + k % 4 + ")", x -> x.size(k % 4));
            reads("sum(" + k + ")", x -> x.sum(k));
            reads("digest(" + k + ", " + k % 3 + ")", x -> x.digest(k, k % 3));
            reads("count(" + k % 7 + ")", x -> x.count(k % 7));
            reads("md5(" + k % 2 + ", " + 2 * k + ")", x -> x.md5(k % 2, 2 * k));
            reads("sumAt(" + k % 2 + ", " + k + ", 2)", x -> x.sumAt(k % 2, k, 2));
        }
        reads("same()", x -> truth(x.same()));
    }

    private static void reads(String name, ToIntFunction<Counted> call) {
        STATES.forEach((state, made) -> Due.edge("read: " + name + ", " + state, () -> leavesAll(made, call)));
    }

    private static void fullOnes() {
        for (int file = 0; file < 2; file++) {
            for (int room = 0; room < 4; room++) {
                int f = file;
                int n = 2000 - room;
                Due.edge("refused: feed(" + f + ", ..) at " + n, () -> {
                    int[] full = Due.mixed(n);
                    for (int k = 0; k < 16; k += 5) {
                        Counted x = new Counted();
                        Due.feed(x, f, full);
                        Due.due("feed", x.feed(f, 0x01020304), NONE);
                        Due.due("size", x.size(f), n);
                        Due.due("all of its bytes: md5(" + f + ", " + k + ")", x.md5(f, k), Due.md5(full)[k]);
                        Due.due("sumAt", x.sumAt(f, 0, n), Due.sumOf(full));
                        Due.due("the other file", x.size(1 - f), 0);
                    }
                });
            }
        }
        Due.edge("refused: push(..) at 6000", () -> {
            Counted x = Due.told(1, 8, new int[] {1, 2, 1, 2}, Due.repeated(1, 1500));
            int[] counts = {1500, 0, 1500, 0, 4, 1, 8};
            Due.due("push(9)", x.push(9), false);
            Due.dueCounts("counts", x, counts);
            for (int i = 0; i < 6000; i += 97) {
                Due.due("at(2, " + i + ")", x.at(2, i), i % 4 == 0 || i % 4 == 3 ? 1 : 0);
            }
            Due.due("apply()", x.apply(), 1500);
            Due.due("same()", x.same(), true);
        });
    }

    private static void ownParts() {
        CALLS.put("old file: feed(0, 1)", x -> x.feed(0, 1));
        CALLS.put("new file: feed(1, 1)", x -> x.feed(1, 1));
        CALLS.put("old file: cut(0, 0)", x -> truth(x.cut(0, 0)));
        CALLS.put("new file: cut(1, 0)", x -> truth(x.cut(1, 0)));
        CALLS.put("old file: put(0, 1, 9)", x -> truth(x.put(0, 1, 9)));
        CALLS.put("new file: put(1, 1, 9)", x -> truth(x.put(1, 1, 9)));
        CALLS.put("none: shape(1, 1)", x -> truth(x.shape(1, 1)));
        CALLS.put("signature: sign()", x -> x.sign());
        CALLS.put("delta, counts: delta()", x -> x.delta());
        CALLS.put("result: apply()", x -> x.apply());
        CALLS.put("delta: change(1, 3)", x -> truth(x.change(1, 3)));
        CALLS.put("delta: push(3)", x -> truth(x.push(3)));
        CALLS.put("delta: keep(0)", x -> truth(x.keep(0)));
        CALLS.forEach((name, call) -> STATES.forEach((state, made) -> Due.edge("own part: " + name + ", " + state, () -> {
            String own = name.substring(0, name.indexOf(':'));
            Map<String, List<Integer>> was = parts(made.get());
            Map<String, List<Integer>> is = parts(touched(made, call));
            was.forEach((part, all) -> {
                boolean alike = all.equals(is.get(part)) || own.contains(part);
                Due.due("the " + part + " is " + is.get(part) + ", was " + all, alike, true);
            });
        })));
    }
}
