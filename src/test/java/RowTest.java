/** Promises 1 to 4 as far as they are about THE ROW: a new object, feed, end, and what read leaves. */
public final class RowTest {
    private static final String STATE = "IllegalStateException";
    private static final String ARGUMENT = "IllegalArgumentException";

    public static void main(String[] args) {
        newObject();
        feedCounts();
        feedOrder();
        feedIsFull();
        endCuts();
        readEmptiesTheRow();
        faultDropsTheModule();
        throwingChangesNothing();
        Check.finish("RowTest");
    }

    private static void newObject() {
        WasmReader reader = new WasmReader();
        Check.same("count of a new object", () -> reader.count(0), STATE);
        Check.same("count of others of a new object", () -> reader.count(11), STATE);
        Check.same("function of a new object", () -> reader.function(-1, -1), STATE);
        Check.same("export of a new object", () -> reader.export(0, 0), STATE);
        Check.same("global of a new object", () -> reader.global(99, 99), STATE);
        Check.same("initial of a new object", () -> reader.initial(0), STATE);
        Check.same("end(1) of a new object", () -> reader.end(1), ARGUMENT);
        Check.same("end(0) of a new object", () -> reader.end(0), 0);
        Check.same("read of a new object", reader.read(), 1);
        Check.same("count after it", () -> reader.count(0), STATE);
    }

    private static void feedCounts() {
        WasmReader reader = new WasmReader();
        for (int n = 1; n <= 10; n++) {
            Check.same("feed", reader.feed(-1, 0, Integer.MAX_VALUE, Integer.MIN_VALUE, n), 20 * n);
        }
    }

    private static void feedOrder() {
        WasmReader reader = new WasmReader();
        // A custom section of 10 bytes fills the twenty: every byte has to be in its place.
        reader.feed(0x0061736d, 0x01000000, 0x000a0361, 0x6263ff80, 0x01020304);
        Check.same("read of twenty bytes", reader.read(), 0);
        // Exports of globals whose names are told back show the order of all bytes, high ones too.
        byte[] row = Wasm.module(
                Wasm.section(6, "01 7f 00 41 00 0b"),
                Wasm.section(7, "01", Wasm.sized("ff 80 7f 01 00 fe 10 20 30 40"), "03 00"));
        WasmReader names = Wasm.reader(row);
        int[] due = {0xff, 0x80, 0x7f, 1, 0, 0xfe, 0x10, 0x20, 0x30, 0x40};
        for (int k = 0; k < due.length; k++) {
            Check.same("byte of a name", names.export(0, 10 + k), due[k]);
        }
    }

    private static void feedIsFull() {
        WasmReader reader = new WasmReader();
        for (int n = 1; n <= 200; n++) {
            Check.same("feed up to 4000", reader.feed(0, 0, 0, 0, 0), 20 * n);
        }
        Check.same("feed beyond 4000", () -> reader.feed(0, 0, 0, 0, 0), STATE);
        Check.same("end(4000)", reader.end(4000), 4000);
        Check.same("end(3981)", reader.end(3981), 3981);
        Check.same("feed to 4001", () -> reader.feed(0, 0, 0, 0, 0), STATE);
        Check.same("end(3980)", reader.end(3980), 3980);
        Check.same("feed to 4000", reader.feed(1, 2, 3, 4, 5), 4000);
        Check.same("feed once more", () -> reader.feed(0, 0, 0, 0, 0), STATE);
        Check.same("read of a full row", reader.read(), 1);
        Check.same("feed after read", reader.feed(0, 0, 0, 0, 0), 20);
        byte[] full = Wasm.module(0, Wasm.unsigned(3989), Wasm.sized(new byte[3987]));
        Check.same("length of a full module", full.length, 4000);
        Wasm.reads("a full module", full, 0);
    }

    private static void endCuts() {
        WasmReader reader = new WasmReader();
        reader.feed(0x0061736d, 0x01000000, 0, 0, 0);
        Check.same("end(-1)", () -> reader.end(-1), ARGUMENT);
        Check.same("end(MIN)", () -> reader.end(Integer.MIN_VALUE), ARGUMENT);
        Check.same("end(21)", () -> reader.end(21), ARGUMENT);
        Check.same("end(MAX)", () -> reader.end(Integer.MAX_VALUE), ARGUMENT);
        Check.same("end(20)", reader.end(20), 20);
        Check.same("end(8)", reader.end(8), 8);
        Check.same("end(9), once cut", () -> reader.end(9), ARGUMENT);
        Check.same("read of the header alone", reader.read(), 0);
        // What was cut must not come back with the bytes that are fed behind the cut.
        reader.feed(0x0061736d, 0x01ffffff, -1, -1, -1);
        reader.end(5);
        Check.same("feed behind a cut", reader.feed(0, 0, 0, 0, 0), 25);
        reader.end(8);
        Check.same("read of what was fed behind a cut", reader.read(), 0);
        reader.feed(0x0061736d, 0x01000000, 0, 0, 0);
        Check.same("end(0)", reader.end(0), 0);
        Check.same("read of what is cut to nothing", reader.read(), 1);
    }

    private static void readEmptiesTheRow() {
        WasmReader reader = new WasmReader();
        Check.same("read", Wasm.read(reader, Wasm.module()), 0);
        Check.same("end(1) after read", () -> reader.end(1), ARGUMENT);
        Check.same("feed after read", reader.feed(7, 7, 7, 7, 7), 20);
        Check.same("read of what is malformed", reader.read(), 1);
        Check.same("end(1) after a fault", () -> reader.end(1), ARGUMENT);
        Check.same("feed after a fault", reader.feed(7, 7, 7, 7, 7), 20);
    }

    private static void faultDropsTheModule() {
        byte[] good = Wasm.module(Wasm.section(6, "01 7f 00 41 05 0b"), Wasm.section(7, "01 01 67 03 00"));
        byte[][] bad = {
            {}, Wasm.module(1), Wasm.body("41 00 0b"), Wasm.module(Wasm.section(5, "01 00 03"))};
        int[] due = {1, 1, 2, 3};
        for (int n = 0; n < bad.length; n++) {
            WasmReader reader = Wasm.reader(good);
            Check.same("initial of the module", reader.initial(0), 5);
            Check.same("read of a bad module", Wasm.read(reader, bad[n]), due[n]);
            Check.same("count after a fault", () -> reader.count(4), STATE);
            Check.same("function after a fault", () -> reader.function(0, 0), STATE);
            Check.same("export after a fault", () -> reader.export(0, 0), STATE);
            Check.same("global after a fault", () -> reader.global(0, 0), STATE);
            Check.same("initial after a fault", () -> reader.initial(0), STATE);
            Check.same("read of a good body", Wasm.read(reader, Wasm.body("02 40 41 00 1a 0b 0b")), 0);
            Check.same("read of the good one again", Wasm.read(reader, good), 0);
            Check.same("initial again", reader.initial(0), 5);
        }
    }

    private static void throwingChangesNothing() {
        WasmReader reader = Wasm.reader(Wasm.module(Wasm.section(6, "01 7e 00 42 7f 0b")));
        reader.feed(0x0061736d, 0x01000000, 0, 0, 0);
        Check.same("end(21)", () -> reader.end(21), ARGUMENT);
        Check.same("count(11)", () -> reader.count(11), ARGUMENT);
        Check.same("global(1, 0)", () -> reader.global(1, 0), "IndexOutOfBoundsException");
        Check.same("the module is still there", reader.initial(0), -1);
        Check.same("the row is still there", reader.end(8), 8);
        Check.same("and is read", reader.read(), 0);
        Check.same("a module without globals", reader.count(4), 0);
    }
}
