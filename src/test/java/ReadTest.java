/** Promise 4: read, of an empty row, and of each FAULT after a MODULE was read. */
public final class ReadTest {
    private static final byte[] GOOD = Sections.body("01 7e 01 7e", "01 02 7f", "02 40 41 00 1a 0b 20 00 0b")
            .with(6, "01", Sections.I32_GLOBAL).with(7, "01 01 67 03 00").bytes();
    private static final byte[][] ROWS = {
        {}, {0}, Wasm.module(1), Sections.body("00 00", "00", "02 40 06 0b 0b").bytes(),
        Sections.body("00 00", "00", "41 00 0b").bytes(), Sections.body("00 00", "00", "02 40 1a 0b 0b").bytes(),
        Sections.none().with(8, "00").bytes(),
        Sections.none().with(5, "01 00 03").bytes(), Sections.body("00 00", "01 1f 7f", "0b").bytes()};
    private static final int[] FAULTS = {1, 1, 1, 1, 2, 2, 2, 3, 3};

    public static void main(String[] args) {
        emptyRow();
        rowIsEmptyThen();
        faultDropsTheModule();
        faultAfterFault();
        moduleAfterModule();
        nothingIsLeftOfWhatWasTooLarge();
        nothingIsLeftOfWhatWasLonger();
        many();
        Check.finish("ReadTest");
    }

    private static void noModule(String what, WasmReader reader) {
        Check.same("count after " + what, () -> reader.count(4), Check.STATE);
        Check.same("function after " + what, () -> reader.function(0, 0), Check.STATE);
        Check.same("export after " + what, () -> reader.export(0, 0), Check.STATE);
        Check.same("global after " + what, () -> reader.global(0, 0), Check.STATE);
        Check.same("initial after " + what, () -> reader.initial(0), Check.STATE);
    }

    private static void emptyRow() {
        WasmReader reader = new WasmReader();
        Check.same("read of a new object", reader.read(), 1);
        Check.same("read once more", reader.read(), 1);
        noModule("a read of nothing", reader);
        Check.same("read of a module", Wasm.read(reader, GOOD), 0);
        Check.same("its global", reader.initial(0), 5);
        Check.same("read of nothing behind it", reader.read(), 1);
        noModule("a read of nothing behind a module", reader);
        reader.feed(0x0061736d, 0x01000000, 0, 0, 0);
        reader.end(0);
        Check.same("read of what was cut to nothing", reader.read(), 1);
        Check.same("read of the module again", Wasm.read(reader, GOOD), 0);
        Check.same("its global again", reader.initial(0), 5);
    }

    private static void rowIsEmptyThen() {
        for (int n = 0; n <= ROWS.length; n++) {
            WasmReader reader = new WasmReader();
            boolean good = n == ROWS.length;
            Check.same("read", Wasm.read(reader, good ? GOOD : ROWS[n]), good ? 0 : FAULTS[n]);
            Check.same("end(1) after read", () -> reader.end(1), Check.ARGUMENT);
            Check.same("end(0) after read", reader.end(0), 0);
            Check.same("feed after read", reader.feed(7, 7, 7, 7, 7), 20);
            Check.same("read of that", reader.read(), 1);
            Check.same("end(1) after that", () -> reader.end(1), Check.ARGUMENT);
            Check.same("feed after that", reader.feed(0x0061736d, 0x01000000, 0, 0, 0), 20);
        }
    }

    private static void faultDropsTheModule() {
        for (int n = 0; n < ROWS.length; n++) {
            WasmReader reader = Wasm.reader(GOOD);
            Check.same("initial of the module", reader.initial(0), 5);
            Wasm.feed(reader, ROWS[n]);
            Check.same("initial before the read", reader.initial(0), 5);
            Check.same("read of a fault", reader.read(), FAULTS[n]);
            noModule("fault " + FAULTS[n], reader);
            Check.same("read of the module again", Wasm.read(reader, GOOD), 0);
            Check.same("initial again", reader.initial(0), 5);
        }
    }

    private static void faultAfterFault() {
        for (int first = 0; first < ROWS.length; first++) {
            WasmReader reader = new WasmReader();
            for (int second = 0; second < ROWS.length; second++) {
                Check.same("the first fault", Wasm.read(reader, ROWS[first]), FAULTS[first]);
                Check.same("the second fault", Wasm.read(reader, ROWS[second]), FAULTS[second]);
                Check.same("no module", () -> reader.count(0), Check.STATE);
            }
            Check.same("then a module", Wasm.read(reader, GOOD), 0);
            Check.same("which is there", reader.count(4), 1);
        }
    }

    private static void moduleAfterModule() {
        WasmReader reader = Wasm.reader(GOOD);
        Check.same("read of the empty module", Wasm.read(reader, Wasm.module()), 0);
        Check.same("it has no globals", reader.count(4), 0);
        Check.same("nor any exports", () -> reader.export(0, 0), Check.INDEX);
        Check.same("read of one with six functions", Wasm.read(reader, Sections.functions(2, 4).bytes()), 0);
        Check.same("it has them", reader.count(2), 6);
        Check.same("read of one with three functions", Wasm.read(reader, Sections.functions(1, 2).bytes()), 0);
        Check.same("it has them alone", reader.count(2), 3);
    }

    private static void nothingIsLeftOfWhatWasTooLarge() {
        Sections[] large = {
            Sections.types(41), Sections.functions(31, 0), Sections.functions(0, 61), Sections.globals(0, 31),
            Sections.exports(41), Sections.elements(21), Sections.data(21), Sections.none().with(4, "01 70 00 c9 01"),
            Sections.body("00 00", "01 1f 7f", "0b"), Sections.none().with(5, "01 00 03")};
        WasmReader reader = new WasmReader();
        for (Sections one : large) {
            Check.same("too large", Wasm.read(reader, one.bytes()), 3);
            Check.same("the empty module", Wasm.read(reader, Wasm.module()), 0);
            Check.same("what it counts", reader.count(0) + reader.count(1) + reader.count(2) + reader.count(3)
                    + reader.count(4) + reader.count(5) + reader.count(6) + reader.count(7) + reader.count(8)
                    + reader.count(9) + reader.count(10), -1);
        }
    }

    /** What the module before had more of, of types, globals or bytes of names, does not count for the next. */
    private static void nothingIsLeftOfWhatWasLonger() {
        WasmReader reader = new WasmReader();
        Check.same("names of three bytes", Wasm.read(reader, Sections.globals(0, 1).with(7,
                "02 03 61 62 63 03 00 03 61 64 65 03 00").bytes()), 0);
        Check.same("two names of one byte, alike", Wasm.read(reader, Sections.globals(0, 1).with(7,
                "02 01 61 03 00 01 61 03 00").bytes()), 2);
        Check.same("two empty names", Wasm.read(reader, Sections.globals(0, 1).with(7,
                "02 00 03 00 00 03 00").bytes()), 2);
        for (int last : new int[] {0, 1, 2, 38, 39, 40}) {
            Check.same("40 types", Wasm.read(reader, Sections.types(40).bytes()), 0);
            Check.same("an import of type " + last + " of one", Wasm.read(reader,
                    Sections.types(1).with(2, "01 00 00 00", last).bytes()), last == 0 ? 0 : 2);
        }
        for (int last : new int[] {0, 1, 2, 28, 29, 30}) {
            Check.same("30 globals", Wasm.read(reader, Sections.globals(30, 0).bytes()), 0);
            Check.same("an INITIAL of global " + last + " of one", Wasm.read(reader,
                    Sections.globals(1, 0).with(6, "01 7f 00 23", last, "0b").bytes()), last == 0 ? 0 : 2);
        }
        WasmReader functions = new WasmReader();
        for (int last : new int[] {0, 1, 2, 29, 30, 59, 60}) {
            Check.same("60 functions", Wasm.read(functions, Sections.functions(30, 30).bytes()), 0);
            Check.same("an export of function " + last + " of one", Wasm.read(functions,
                    Sections.functions(1, 0).with(7, "01 00 00", last).bytes()), last == 0 ? 0 : 2);
            Check.same("a start of " + last + " of one", Wasm.read(functions,
                    Sections.functions(1, 0).with(8, last).bytes()), last == 0 ? 0 : 2);
        }
    }

    /** As many calls as an object is used for. */
    private static void many() {
        WasmReader reader = new WasmReader();
        for (int n = 0; n < 512; n += 8) {
            reader.feed(0x0061736d, 0x01000000, 0x0606017f, 0x0041000b, 0);
            reader.end(16);
            Check.same("read", reader.read(), 0);
            Check.same("count(4)", reader.count(4), 1);
            reader.feed(0x0061736d, 0x01000000, 0x0606017f, 0x0042000b, 0);
            reader.end(16);
            Check.same("read of what is not valid", reader.read(), 2);
            Check.same("no count(4)", () -> reader.count(4), Check.STATE);
        }
    }
}
