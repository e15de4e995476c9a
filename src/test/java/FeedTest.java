/** Promise 2: feed, byte by byte, up to a full row and beyond it. */
public final class FeedTest {
    public static void main(String[] args) {
        howManyItHas();
        highestByteFirst();
        behindWhatIsThere();
        fullRow();
        roundTheLastTwenty();
        fullModule();
        Check.finish("FeedTest");
    }

    private static void howManyItHas() {
        WasmReader reader = new WasmReader();
        for (int n = 1; n <= 10; n++) {
            Check.same("feed", reader.feed(-1, 0, Check.HIGH, Check.LOW, n), 20 * n);
        }
    }

    private static void highestByteFirst() {
        WasmReader reader = new WasmReader();
        // A custom section of 10 bytes fills the twenty: every byte has to be in its place.
        reader.feed(0x0061736d, 0x01000000, 0x000a0361, 0x6263ff80, 0x01020304);
        Check.same("read of twenty bytes", reader.read(), 0);
        // The name of an export tells the bytes back: here each of the five words has all its bytes in names.
        byte[] row = Sections.globals(0, 1).with(7, "03",
                Wasm.sized("00 01 7f 80 ff fe 10 20 30 40"), "03 00",
                Wasm.name("abcdefghijklmnopqrst"), "03 00",
                Wasm.sized("99 88 77 66 55 44 33 22 11 aa"), "03 00").bytes();
        WasmReader names = Wasm.reader(row);
        int[] due = {0, 1, 0x7f, 0x80, 0xff, 0xfe, 0x10, 0x20, 0x30, 0x40};
        int[] last = {0x99, 0x88, 0x77, 0x66, 0x55, 0x44, 0x33, 0x22, 0x11, 0xaa};
        for (int k = 0; k < 10; k++) {
            Check.same("byte " + k + " of the first name", names.export(0, 10 + k), due[k]);
            Check.same("byte " + k + " of the last name", names.export(2, 10 + k), last[k]);
        }
        for (int k = 0; k < 20; k++) {
            Check.same("byte " + k + " of the second name", names.export(1, 10 + k), 'a' + k);
        }
    }

    /** Feeds a module twenty bytes at a time, each time behind a cut that leaves less than they were. */
    private static void behindWhatIsThere() {
        byte[] row = Sections.globals(0, 1).with(7, "01", Wasm.name("abcdefghijklmnopqrst"), "03 00").bytes();
        for (int step = 1; step <= 20; step++) {
            WasmReader reader = new WasmReader();
            for (int at = 0; at < row.length; at += step) {
                Check.same("feed behind " + at, reader.feed(Wasm.word(row, at), Wasm.word(row, at + 4),
                        Wasm.word(row, at + 8), Wasm.word(row, at + 12), Wasm.word(row, at + 16)), at + 20);
                int left = Math.min(at + step, row.length);
                Check.same("end at " + left, reader.end(left), left);
            }
            Check.same("read of what came by " + step, reader.read(), 0);
            Check.same("its last byte", reader.export(0, 29), 't');
        }
    }

    private static WasmReader filled() {
        WasmReader reader = new WasmReader();
        for (int n = 1; n <= 200; n++) {
            Check.same("feed up to 4000", reader.feed(0, 0, 0, 0, 0), 20 * n);
        }
        return reader;
    }

    private static void fullRow() {
        WasmReader reader = filled();
        Check.same("feed beyond 4000", () -> reader.feed(0, 0, 0, 0, 0), Check.STATE);
        Check.same("feed beyond 4000 again", () -> reader.feed(-1, -1, -1, -1, -1), Check.STATE);
        Check.same("the row has 4000", reader.end(4000), 4000);
        Check.same("read of a full row", reader.read(), 1);
        Check.same("feed after read", reader.feed(0, 0, 0, 0, 0), 20);
        WasmReader cut = filled();
        Check.same("end(0) of a full row", cut.end(0), 0);
        Check.same("feed then", cut.feed(0, 0, 0, 0, 0), 20);
    }

    private static void roundTheLastTwenty() {
        WasmReader reader = filled();
        for (int length = 3999; length >= 3975; length--) {
            int has = length;
            Check.same("end", reader.end(has), has);
            if (has > 3980) {
                Check.same("feed to " + (has + 20), () -> reader.feed(0, 0, 0, 0, 0), Check.STATE);
                Check.same("there is no byte more", () -> reader.end(has + 1), Check.ARGUMENT);
            } else {
                Check.same("feed to " + (has + 20), reader.feed(0, 0, 0, 0, 0), has + 20);
                Check.same("there is no byte more", () -> reader.end(has + 21), Check.ARGUMENT);
                Check.same("all twenty are there", reader.end(has + 20), has + 20);
            }
        }
    }

    private static void fullModule() {
        for (int length : new int[] {3979, 3980, 3981, 3999, 4000}) {
            // A custom section of an empty name, of which each byte counts, fills the row.
            byte[] row = Wasm.module(0, Wasm.sized(new byte[length - 11]));
            Check.same("length of a module", row.length, length);
            Wasm.reads("a module of " + length, row, 0);
            row[8] = 12;
            Wasm.reads("no module, of " + length, row, 1);
        }
        byte[] full = Wasm.bytes(Wasm.module(0, Wasm.sized(new byte[3970])),
                Wasm.section(6, "01 7f 00 41 e4 00 0b"), "00 08 07", Wasm.bytes("61 61 61 61 61 61 61"));
        Check.same("length of a module with a last section", full.length, 4000);
        WasmReader reader = Wasm.reader(full);
        Check.same("what stands near its end", reader.initial(0), 100);
    }
}
