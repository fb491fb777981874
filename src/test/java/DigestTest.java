import java.math.BigInteger;
import java.util.function.Consumer;

/**
 * digest() is held against what promise 50 tells, computed from the other answers on whole
 * numbers without bounds, of which the last 64 binary digits are taken at the end.
 */
final class DigestTest {
    private final Dues dues = new Dues();
    private BigInteger d;

    public static void main(String[] args) {
        DigestTest test = new DigestTest();
        test.hold("a number d starts with 7638", x -> { });
        test.hold("WIDE cell by cell", DigestTest::fillWide);
        test.hold("NARROW cell by cell", DigestTest::fillNarrow);
        test.hold("both rows", x -> {
            fillWide(x);
            fillNarrow(x);
        });
        test.hold("1 if they are LIKE, otherwise 0: ZEROS", x -> {
            x.wideKnown(3, 1);
            x.narrowKnown(4, 1);
        });
        test.hold("wideFind() from the begin and from the end", x -> {
            x.wideKnown(1, 5);
            x.wideKnown(6, 5);
            x.narrowKnown(0, 2);
            x.narrowKnown(7, 2);
        });
        test.hold("house() of 0 to 3", x -> {
            x.wideSort(0);
            x.narrowSort(0);
            x.narrowSort(1);
            x.putWide(0, -1, 0);
            x.putNarrow(0, -1);
            x.putNarrow(0, -1);
            for (int knock = 0; knock < 5; knock++) {
                x.knock();
            }
        });
        test.dues.end("DigestTest");
    }

    private static void fillWide(Edgefloats x) {
        for (int which = 0; which <= 6; which++) {
            x.wideKnown(7 - which, which);
        }
        x.wideQuarters(0, -1000000000);
    }

    private static void fillNarrow(Edgefloats x) {
        for (int which = 0; which <= 6; which++) {
            x.narrowKnown(which, which);
        }
        x.narrowQuarters(7, -16000000);
    }

    private void hold(String test, Consumer<Edgefloats> use) {
        Edgefloats used = new Edgefloats();
        use.accept(used);
        long got = used.digest();
        dues.due(test + ", asked once more", used.digest(), got);
        d = BigInteger.valueOf(7638);
        takeWide(used);
        takeNarrow(used);
        takePairs(used);
        for (int what = 0; what <= 3; what++) {
            take(used.house(what));
        }
        take(used.isSound() ? 1 : 0);
        dues.due(test, got, d.longValue());
        dues.due(test + ", d is more than 64 digits hold", d.bitLength() > 64, true);
    }

    private void takeWide(Edgefloats x) {
        for (int cell = 0; cell < 8; cell++) {
            take(x.upper(cell), x.lower(cell), x.wideHash(cell, 0), x.wideCount(cell), x.wideFind(cell, false), x.wideFind(cell, true));
        }
    }

    private void takeNarrow(Edgefloats x) {
        for (int cell = 0; cell < 8; cell++) {
            take(x.digits(cell), x.narrowHash(cell, 0), x.narrowCount(cell), x.narrowFind(cell, false), x.narrowFind(cell, true));
        }
    }

    private void takePairs(Edgefloats x) {
        for (int one = 0; one < 8; one++) {
            for (int other = one + 1; other < 8; other++) {
                take(x.wideOrder(one, other, 0), x.wideLike(one, other) ? 1 : 0);
            }
        }
        for (int one = 0; one < 8; one++) {
            for (int other = one + 1; other < 8; other++) {
                take(x.narrowOrder(one, other, 0), x.narrowLike(one, other) ? 1 : 0);
            }
        }
    }

    private void take(int... values) {
        for (int v : values) {
            d = d.multiply(BigInteger.valueOf(31)).add(BigInteger.valueOf(v));
        }
    }
}
