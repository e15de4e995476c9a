/** Promise 3: end, below 0, at 0, at all bytes and beyond them. */
public final class EndTest {
    public static void main(String[] args) {
        emptyRow();
        twentyBytes();
        fullRow();
        afterCut();
        cutBytesAreGone();
        moduleStays();
        Check.finish("EndTest");
    }

    private static void refused(WasmReader reader, int length) {
        for (int n : new int[] {-1, -2, -20, Check.LOW, length + 1, length + 2, length + 20, 4001, Check.HIGH}) {
            Check.same("end(" + n + ") of " + length, () -> reader.end(n), Check.ARGUMENT);
        }
        Check.same("end of all " + length, reader.end(length), length);
    }

    private static void emptyRow() {
        WasmReader reader = new WasmReader();
        refused(reader, 0);
        Check.same("end(0) again", reader.end(0), 0);
        Check.same("read of an empty row", reader.read(), 1);
        refused(reader, 0);
    }

    private static void twentyBytes() {
        WasmReader reader = new WasmReader();
        reader.feed(0, 0, 0, 0, 0);
        for (int length = 20; length >= 0; length--) {
            Check.same("end(" + length + ")", reader.end(length), length);
            refused(reader, length);
        }
    }

    private static void fullRow() {
        WasmReader reader = new WasmReader();
        for (int n = 0; n < 200; n++) {
            reader.feed(0, 0, 0, 0, 0);
        }
        for (int length : new int[] {4000, 3999, 3998, 3981, 3980, 3979, 256, 255, 128, 127, 2, 1, 0}) {
            Check.same("end(" + length + ") of a full row", reader.end(length), length);
            refused(reader, length);
        }
    }

    private static void afterCut() {
        WasmReader reader = new WasmReader();
        reader.feed(0x0061736d, 0x01000000, 0, 0, 0);
        Check.same("end(9)", reader.end(9), 9);
        Check.same("end(8)", reader.end(8), 8);
        Check.same("end(9), once cut", () -> reader.end(9), Check.ARGUMENT);
        Check.same("read of the header alone", reader.read(), 0);
        Check.same("end(1) after read", () -> reader.end(1), Check.ARGUMENT);
        reader.feed(0x0061736d, 0x01000000, 0, 0, 0);
        reader.end(7);
        Check.same("read of a byte less than the header", reader.read(), 1);
        reader.feed(0x0061736d, 0x01000000, 0, 0, 0);
        reader.end(9);
        Check.same("read of a byte more than the header", reader.read(), 1);
        reader.feed(0x0061736d, 0x01000000, 0, 0, 0);
        reader.end(0);
        Check.same("read of what is cut to nothing", reader.read(), 1);
    }

    private static void cutBytesAreGone() {
        WasmReader reader = new WasmReader();
        reader.feed(0x0061736d, 0x01ffffff, -1, -1, -1);
        reader.end(5);
        Check.same("feed behind a cut", reader.feed(0, 0, 0, 0, 0), 25);
        reader.end(8);
        Check.same("read of what was fed behind a cut", reader.read(), 0);
        // A section whose bytes stand behind the cut alone must not be found there.
        byte[] row = Sections.none().with(6, "01", Sections.I32_GLOBAL).bytes();
        for (int length = 0; length <= row.length; length++) {
            Wasm.feed(reader, row);
            reader.end(length);
            Check.same("read of the first " + length, reader.read(), length == 8 || length == row.length ? 0 : 1);
        }
    }

    private static void moduleStays() {
        WasmReader reader = Wasm.reader(Sections.globals(0, 1).bytes());
        Check.same("end(0)", reader.end(0), 0);
        Check.same("end(1)", () -> reader.end(1), Check.ARGUMENT);
        Check.same("the module is still there", reader.initial(0), 5);
        reader.feed(0, 0, 0, 0, 0);
        Check.same("end(3)", reader.end(3), 3);
        Check.same("the module is still there", reader.initial(0), 5);
    }
}
