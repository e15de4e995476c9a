import java.util.Arrays;
import java.util.Random;

/** No row of bytes makes a call throw what the document does not say, or fail to end. */
public final class RandomRowsTest {
    private static final Random RANDOM = new Random(20261115);

    public static void main(String[] args) {
        noise();
        mutations();
        answersAfterAnyRead();
        Check.finish("RandomRowsTest");
    }

    private static byte[] seed() {
        return Wasm.module(
                Wasm.section(1, "03 60 00 00 60 02 7f 7e 01 7e 60 01 7f 01 7f"),
                Wasm.section(2, "03 01 61 01 66 00 01 01 61 01 67 03 7f 00 01 61 01 74 01 70 00 05"),
                Wasm.section(3, "03 00 01 02"), Wasm.section(5, "01 01 01 02"),
                Wasm.section(6, "02 7f 01 41 7f 0b 7f 00 23 00 0b"),
                Wasm.section(7, "02 01 61 00 01 01 62 03 01"), Wasm.section(8, "01"),
                Wasm.section(9, "01 00 41 00 0b 02 00 01"),
                Wasm.section(10, "03",
                        Wasm.sized("01 02 7f", "02 40 03 40 20 00 04 40 0c 02 05 41 01 0d 01 0b 0c 00 0b 0b 0b"),
                        Wasm.sized("00", "20 00 20 01 41 00 11 01 00 0b"),
                        Wasm.sized("00", "20 00 28 02 04 41 00 20 00 41 07 36 00 00 0e 01 00 00 0b")),
                Wasm.section(11, "01 00 41 00 0b 02 61 62"));
    }

    private static void reads(byte[] row) {
        int fault = Wasm.read(row);
        Check.same("a fault from 0 to 3", fault >= 0 && fault <= 3 ? 1 : 0, 1);
    }

    private static void noise() {
        reads(seed());
        for (int n = 0; n < 3000; n++) {
            byte[] row = new byte[RANDOM.nextInt(n % 10 == 0 ? 4001 : 60)];
            RANDOM.nextBytes(row);
            reads(row);
            reads(Wasm.module(row.length > 3992 ? new byte[0] : row));
            byte[] small = row.length > 3900 ? new byte[0] : row;
            reads(Wasm.module(Wasm.section(RANDOM.nextInt(12), small)));
            reads(Wasm.body(Wasm.bytes(small, "0b")));
        }
    }

    private static void mutations() {
        for (int n = 0; n < 60000; n++) {
            byte[] row = seed();
            for (int times = RANDOM.nextInt(3); times >= 0; times--) {
                row[RANDOM.nextInt(row.length)] = (byte) RANDOM.nextInt(256);
            }
            reads(row);
        }
        for (int length = 0; length < seed().length; length++) {
            reads(Arrays.copyOf(seed(), length));
        }
    }

    private static void answersAfterAnyRead() {
        WasmReader fresh = new WasmReader();
        for (int n = 0; n < 20000; n++) {
            // A row of the seed's length takes some twenty calls with these answers, and an object is good for 512.
            fresh = n % 16 == 0 ? new WasmReader() : fresh;
            WasmReader reader = fresh;
            byte[] row = seed();
            row[RANDOM.nextInt(row.length)] ^= (byte) (1 << RANDOM.nextInt(8));
            WasmReader other = new WasmReader();
            int fault = Wasm.read(reader, row);
            Check.same("the fault that a new object finds", fault, Wasm.read(other, row));
            boolean read = fault == 0;
            int what = RANDOM.nextInt(30) - 5;
            int index = RANDOM.nextInt(10) - 3;
            Check.same("count", known(() -> reader.count(what), read), 1);
            Check.same("function", known(() -> reader.function(index, what), read), 1);
            Check.same("export", known(() -> reader.export(index, what), read), 1);
            Check.same("global", known(() -> reader.global(index, what), read), 1);
            Check.same("initial", known(() -> reader.initial(index), read), 1);
            Check.same("what a new object counts", got(() -> reader.count(what)), got(() -> other.count(what)));
            Check.same("what a new object tells of a function",
                    got(() -> reader.function(index, what)), got(() -> other.function(index, what)));
        }
    }

    private static long got(Check.Call call) {
        try {
            return call.answer();
        } catch (RuntimeException e) {
            return Long.MIN_VALUE;
        }
    }

    /** Whether the call answers or throws as it may with a module, or without. */
    private static int known(Check.Call call, boolean module) {
        try {
            call.answer();
            return module ? 1 : 0;
        } catch (IllegalStateException e) {
            return module ? 0 : 1;
        } catch (IndexOutOfBoundsException e) {
            return module && e.getClass() == IndexOutOfBoundsException.class ? 1 : 0;
        } catch (IllegalArgumentException e) {
            return module && e.getClass() == IllegalArgumentException.class ? 1 : 0;
        }
    }
}
