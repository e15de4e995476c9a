/** Promise 5: count, of each sort at its least and its most, without a MODULE and for others. */
public final class CountTest {
    public static void main(String[] args) {
        withoutModule();
        others();
        emptyModule();
        eachAlone();
        atTheirMost();
        tablesAndMemories();
        start();
        Check.finish("CountTest");
    }

    private static void withoutModule() {
        WasmReader reader = new WasmReader();
        for (int what : new int[] {Check.LOW, -2, -1, 0, 1, 2, 3, 4, 5, 6, 7, 8, 9, 10, 11, 12, Check.HIGH}) {
            Check.same("count(" + what + ") without a module", () -> reader.count(what), Check.STATE);
        }
    }

    private static void others() {
        WasmReader[] readers = {
            Wasm.reader(Wasm.module()), Wasm.reader(Sections.functions(1, 2).with(8, "01").bytes())};
        for (WasmReader reader : readers) {
            for (int what : new int[] {Check.LOW, Check.LOW + 10, -10, -2, -1, 11, 12, 20, 256, 266, Check.HIGH}) {
                Check.same("count(" + what + ")", () -> reader.count(what), Check.ARGUMENT);
            }
        }
    }

    private static void counts(String what, Sections module, int... due) {
        WasmReader reader = Wasm.reader(module.bytes());
        for (int n = 0; n <= 10; n++) {
            Check.same("count(" + n + ") of " + what, reader.count(n), due[n]);
        }
    }

    private static void emptyModule() {
        counts("no sections", Sections.none(), 0, 0, 0, 0, 0, 0, 0, 0, 0, 0, -1);
        counts("empty sections", Sections.none().with(1, "00").with(2, "00").with(3, "00").with(4, "00").with(5, "00")
                .with(6, "00").with(7, "00").with(9, "00").with(10, "00").with(11, "00"),
                0, 0, 0, 0, 0, 0, 0, 0, 0, 0, -1);
    }

    private static void eachAlone() {
        counts("a type", Sections.types(1), 1, 0, 0, 0, 0, 0, 0, 0, 0, 0, -1);
        counts("an imported function", Sections.functions(1, 0), 1, 1, 1, 1, 0, 0, 0, 0, 0, 0, -1);
        counts("an own function", Sections.functions(0, 1), 1, 0, 1, 0, 0, 0, 0, 0, 0, 0, -1);
        counts("an imported global", Sections.globals(1, 0), 0, 1, 0, 0, 1, 0, 0, 0, 0, 0, -1);
        counts("an own global", Sections.globals(0, 1), 0, 0, 0, 0, 1, 0, 0, 0, 0, 0, -1);
        counts("an export", Sections.exports(1), 0, 0, 0, 0, 1, 1, 0, 0, 0, 0, -1);
        counts("an element", Sections.elements(1), 0, 0, 0, 0, 0, 0, 1, 0, 1, 0, -1);
        counts("a data", Sections.data(1), 0, 0, 0, 0, 0, 0, 0, 1, 0, 1, -1);
    }

    private static void atTheirMost() {
        counts("40 types", Sections.types(40), 40, 0, 0, 0, 0, 0, 0, 0, 0, 0, -1);
        counts("39 types", Sections.types(39), 39, 0, 0, 0, 0, 0, 0, 0, 0, 0, -1);
        counts("30 imported functions", Sections.functions(30, 0), 1, 30, 30, 30, 0, 0, 0, 0, 0, 0, -1);
        counts("60 functions", Sections.functions(0, 60), 1, 0, 60, 0, 0, 0, 0, 0, 0, 0, -1);
        counts("59 functions", Sections.functions(0, 59), 1, 0, 59, 0, 0, 0, 0, 0, 0, 0, -1);
        counts("30 and 30 functions", Sections.functions(30, 30), 1, 30, 60, 30, 0, 0, 0, 0, 0, 0, -1);
        counts("30 imported globals", Sections.globals(30, 0), 0, 30, 0, 0, 30, 0, 0, 0, 0, 0, -1);
        counts("30 globals", Sections.globals(0, 30), 0, 0, 0, 0, 30, 0, 0, 0, 0, 0, -1);
        counts("7 and 23 globals", Sections.globals(7, 23), 0, 7, 0, 0, 30, 0, 0, 0, 0, 0, -1);
        counts("40 exports", Sections.exports(40), 0, 0, 0, 0, 1, 40, 0, 0, 0, 0, -1);
        counts("39 exports", Sections.exports(39), 0, 0, 0, 0, 1, 39, 0, 0, 0, 0, -1);
        counts("20 elements", Sections.elements(20), 0, 0, 0, 0, 0, 0, 20, 0, 1, 0, -1);
        counts("19 elements", Sections.elements(19), 0, 0, 0, 0, 0, 0, 19, 0, 1, 0, -1);
        counts("20 data", Sections.data(20), 0, 0, 0, 0, 0, 0, 0, 20, 0, 1, -1);
        counts("19 data", Sections.data(19), 0, 0, 0, 0, 0, 0, 0, 19, 0, 1, -1);
        // An element of many functions is one, as is a data of many bytes.
        counts("an element of 9 functions", Sections.functions(0, 1).with(4, "01 70 00 01")
                .with(9, "01 00 41 00 0b", Wasm.many(9, "00")), 1, 0, 1, 0, 0, 0, 1, 0, 1, 0, -1);
        counts("a data of 9 bytes", Sections.data(0).with(11, "01 00 41 00 0b", Wasm.many(9, "00")),
                0, 0, 0, 0, 0, 0, 0, 1, 0, 1, -1);
    }

    private static void tablesAndMemories() {
        counts("an own table", Sections.none().with(4, "01 70 00 00"), 0, 0, 0, 0, 0, 0, 0, 0, 1, 0, -1);
        counts("an own memory", Sections.none().with(5, "01 00 00"), 0, 0, 0, 0, 0, 0, 0, 0, 0, 1, -1);
        counts("an imported table", Sections.none().with(2, "01 00 00 01 70 00 00"), 0, 1, 0, 0, 0, 0, 0, 0, 1, 0, -1);
        counts("an imported memory", Sections.none().with(2, "01 00 00 02 00 00"), 0, 1, 0, 0, 0, 0, 0, 0, 0, 1, -1);
        counts("one imported, one own", Sections.none().with(2, "01 00 00 02 00 00").with(4, "01 70 00 00"),
                0, 1, 0, 0, 0, 0, 0, 0, 1, 1, -1);
    }

    private static void start() {
        for (int start : new int[] {0, 1, 29, 30, 31, 58, 59}) {
            counts("a start of " + start, Sections.functions(30, 30).with(8, start),
                    1, 30, 60, 30, 0, 0, 0, 0, 0, 0, start);
        }
        WasmReader reader = Wasm.reader(Sections.functions(0, 1).with(8, "00").bytes());
        Check.same("a start", reader.count(10), 0);
        Check.same("read without one", Wasm.read(reader, Sections.functions(0, 1).bytes()), 0);
        Check.same("no start", reader.count(10), -1);
        Wasm.reads("a start of 60 of 60 functions", Sections.functions(30, 30).with(8, "3c").bytes(), 2);
    }
}
