import java.math.BigInteger;
import java.util.function.Supplier;

/** What digest() has to answer, put together from what the other calls answer, and wrapped around only at its end. */
final class Checksum {
    private BigInteger d = BigInteger.valueOf(58090);

    private Checksum() {
    }

    /** The MAP is asked of one object, the BEINGS of another one, since none may be called more than 512 times. */
    static long due(Supplier<Warren> made) {
        Checksum checksum = new Checksum();
        checksum.addMap(made.get());
        checksum.addBeings(made.get());
        return checksum.d.longValue();
    }

    private void add(long v) {
        d = d.multiply(BigInteger.valueOf(31)).add(BigInteger.valueOf(v));
    }

    private void addMap(Warren warren) {
        for (int what = 0; what <= 8; what++) {
            add(warren.many(what));
        }
        for (int cell = 0; cell < 160; cell++) {
            add(warren.cell(cell));
        }
    }

    private void addBeings(Warren warren) {
        int beings = warren.many(0);
        for (int being = 0; being < beings; being++) {
            for (int what = 0; what <= 9; what++) {
                add(warren.of(being, what));
            }
            for (int effect = 0; effect < 5; effect++) {
                add(warren.effect(being, effect, false));
                add(warren.effect(being, effect, true));
            }
            add(warren.target(being));
            add(warren.plan(being));
            for (int action = 0; action < 8; action++) {
                add(warren.worth(being, action));
            }
        }
        int turn = warren.many(3);
        if (turn >= 0) {
            add(warren.danger(0, warren.of(turn, 1)));
        }
    }
}
