import java.util.function.ToIntFunction;

/** An object is used for 512 calls: the last of them answers as the first does. */
public final class LastCallTest {
    public static void main(String[] args) {
        last("feed", x -> x.feed(0, 1), 8);
        last("feed of no file", x -> x.feed(2, 1), DeltaSync.NONE);
        last("cut", x -> truth(x.cut(0, 4)), 1);
        last("put", x -> truth(x.put(0, 3, 1)), 1);
        last("shape", x -> truth(x.shape(256, 16)), 1);
        last("shape, not such", x -> truth(x.shape(257, 16)), 0);
        last("sign", Counted::sign, 2);
        last("sum", x -> x.sum(0), Due.sumOf('a', 'b'));
        last("digest", x -> x.digest(1, 3), Due.md5('c', 'd')[3]);
        last("delta", Counted::delta, 11);
        last("apply", Counted::apply, 5);
        last("at", x -> x.at(2, 10), 1);
        last("size", x -> x.size(2), 11);
        last("change", x -> truth(x.change(10, 2)), 1);
        last("push", x -> truth(x.push(0)), 1);
        last("keep", x -> truth(x.keep(11)), 1);
        last("sumAt", x -> x.sumAt(1, 3, 2), Due.sumOf('a', 'b'));
        last("md5", x -> x.md5(0, 15), Due.md5('a', 'b', 'c', 'd')[15]);
        last("same", x -> truth(x.same()), 1);
        last("count", x -> x.count(0), 2);
        manyMakings();
        Due.end("LastCallTest");
    }

    private static int truth(boolean b) {
        return b ? 1 : 0;
    }

    private static Counted ready() {
        Counted x = Due.told(2, 4, Due.bytes("abcd"), Due.bytes("cdxab"));
        x.apply();
        return x;
    }

    private static void last(String name, ToIntFunction<Counted> call, int want) {
        Due.edge("the 512th call: " + name, () -> {
            Due.due("at once", call.applyAsInt(ready()), want);
            Counted x = ready();
            for (int n = 0; x.left() > 1; n++) {
                other(x, n);
            }
            Due.due("as the last one", call.applyAsInt(x), want);
        });
    }

    // Calls that leave the object as it is, those that make things again among them.
    private static void other(Counted x, int n) {
        switch (n % 9) {
            case 0: x.sign(); break;
            case 1: x.delta(); break;
            case 2: x.apply(); break;
            case 3: x.md5(n % 2, n % 16); break;
            case 4: x.put(0, 0, 'a'); break;
            case 5: x.shape(2, 4); break;
            case 6: x.feed(9, n); break;
            case 7: x.keep(x.left() > 2 ? x.size(2) : 11); break;
            default: x.same(); break;
        }
    }

    private static void manyMakings() {
        Due.edge("512 calls that make and unmake", () -> {
            Counted x = new Counted();
            for (int turn = 0; x.left() >= 12; turn++) {
                x.cut(0, 0);
                x.cut(1, 0);
                x.feed(0, 0x01020304 + turn);
                x.feed(1, 0x03040102 + turn);
                x.shape(1 + turn % 4, 16);
                Due.due("sign()", x.sign(), 4 / (1 + turn % 4));
                x.delta();
                Due.due("apply()", x.apply(), 4);
                Due.due("same()", x.same(), true);
                Due.due("at(3, 0)", x.at(3, 0), 3);
                Due.due("count(0) and count(1)", x.count(0) * (1 + turn % 4) + x.count(1), 4);
            }
        });
    }
}
