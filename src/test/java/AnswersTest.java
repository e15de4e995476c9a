/** Promises 5 to 9 together: what all calls tell of one module, and that nothing is left of the one before. */
public final class AnswersTest {
    public static void main(String[] args) {
        WasmReader full = Wasm.reader(fullModule());
        counts(full);
        functions(full);
        exports(full);
        globals(full);
        initials(full);
        nothingIsLeftOfTheModuleBefore();
        feedingKeepsTheModule();
        Check.finish("AnswersTest");
    }

    private static byte[] fullModule() {
        return Wasm.module(
                Wasm.section(1, "04", "60 00 00", "60 02 7f 7e 01 7e", "60 01 7e 00", "60 06 7e 7f 7e 7f 7e 7e 01 7f"),
                Wasm.section(2, "07",
                        Wasm.name("env"), Wasm.name("f"), "00 01",
                        Wasm.name("env"), Wasm.name("g"), "03 7e 00",
                        Wasm.name("env"), Wasm.name("t"), "01 70 00 05",
                        Wasm.name("env"), Wasm.name("h"), "03 7f 01",
                        Wasm.name("env"), Wasm.name("k"), "00 00",
                        Wasm.name("env"), Wasm.name("n"), "03 7f 00",
                        Wasm.name("env"), Wasm.name("e"), "00 03"),
                Wasm.section(3, "03 00 01 03"),
                Wasm.section(5, "01 01 01 02"),
                Wasm.section(6, "04", "7f 01 41 7f 0b", "7e 00 23 00 0b", "7f 00 23 02 0b", "7e 01 42 e4 00 0b"),
                Wasm.section(7, "06",
                        Wasm.name("go"), "00 05", Wasm.name("table"), "01 00", Wasm.name(""), "02 00",
                        Wasm.name("\u00ff\u0000\u0080"), "03 06", Wasm.name("01234567890123456789"), "00 00",
                        Wasm.name("h"), "03 01"),
                Wasm.section(8, "03"),
                Wasm.section(9, "02", "00 41 00 0b 03 00 01 05", "00 23 02 0b 00"),
                Wasm.section(10, "03",
                        Wasm.sized("00 0b"),
                        Wasm.sized("03 02 7e 01 7f 01 7e", "20 01 0b"),
                        Wasm.sized("80 00", "01 41 e4 00 0b")),
                Wasm.section(11, "03", "00 41 00 0b 02 61 62", "00 41 05 0b 00", "00 23 02 0b 01 00"));
    }

    private static void counts(WasmReader reader) {
        int[] due = {4, 7, 6, 3, 7, 6, 2, 3, 1, 1, 3};
        for (int what = 0; what < due.length; what++) {
            Check.same("count(" + what + ")", reader.count(what), due[what]);
        }
        for (int what : new int[] {-1, 11, 12, 20, Check.LOW, Check.HIGH}) {
            Check.same("count(" + what + ")", () -> reader.count(what), Check.ARGUMENT);
        }
    }

    private static void functions(WasmReader reader) {
        int[][] due = {{2, 1, 0, 0}, {0, 0, 0, 0}, {6, 1, 0, 0}, {0, 0, 0, 1}, {2, 1, 4, 3}, {6, 1, 0, 5}};
        int[][] types = {{0, 1}, {}, {1, 0, 1, 0, 1, 1}, {}, {0, 1, 1, 1, 0, 1}, {1, 0, 1, 0, 1, 1}};
        for (int n = 0; n < due.length; n++) {
            int f = n;
            for (int what = 0; what < 4; what++) {
                Check.same("function(" + f + ", " + what + ")", reader.function(f, what), due[f][what]);
            }
            for (int k = 0; k < types[f].length; k++) {
                Check.same("function(" + f + ", 10 + " + k + ")", reader.function(f, 10 + k), types[f][k]);
            }
            for (int what : new int[] {-1, 4, 9, 10 + types[f].length, 40, 74, Check.LOW, Check.HIGH}) {
                Check.same("function(" + f + ", " + what + ")", () -> reader.function(f, what), Check.ARGUMENT);
            }
        }
        for (int f : new int[] {-1, 6, 59, 60, 61, Check.LOW, Check.HIGH}) {
            Check.same("function(" + f + ", 0)", () -> reader.function(f, 0), Check.INDEX);
            Check.same("function(" + f + ", -1)", () -> reader.function(f, -1), Check.INDEX);
        }
    }

    private static void exports(WasmReader reader) {
        int[][] due = {{0, 5, 2}, {1, 0, 5}, {2, 0, 0}, {3, 6, 3}, {0, 0, 20}, {3, 1, 1}};
        String[] names = {"go", "table", "", "\u00ff\u0000\u0080", "01234567890123456789", "h"};
        for (int n = 0; n < due.length; n++) {
            int e = n;
            for (int what = 0; what < 3; what++) {
                Check.same("export(" + e + ", " + what + ")", reader.export(e, what), due[e][what]);
            }
            for (int k = 0; k < names[e].length(); k++) {
                Check.same("export(" + e + ", 10 + " + k + ")", reader.export(e, 10 + k), names[e].charAt(k));
            }
            for (int what : new int[] {-1, 3, 9, 10 + names[e].length(), 30, Check.LOW, Check.HIGH}) {
                Check.same("export(" + e + ", " + what + ")", () -> reader.export(e, what), Check.ARGUMENT);
            }
        }
        for (int e : new int[] {-1, 6, 39, 40, 41, Check.LOW, Check.HIGH}) {
            Check.same("export(" + e + ", 0)", () -> reader.export(e, 0), Check.INDEX);
            Check.same("export(" + e + ", -1)", () -> reader.export(e, -1), Check.INDEX);
        }
    }

    private static void globals(WasmReader reader) {
        int[][] due = {{1, 0, 0}, {0, 1, 0}, {0, 0, 0}, {0, 1, 1}, {1, 0, 2}, {0, 0, 2}, {1, 1, 1}};
        for (int n = 0; n < due.length; n++) {
            int g = n;
            for (int what = 0; what < 3; what++) {
                Check.same("global(" + g + ", " + what + ")", reader.global(g, what), due[g][what]);
            }
            for (int what : new int[] {-1, 3, 10, Check.LOW, Check.HIGH}) {
                Check.same("global(" + g + ", " + what + ")", () -> reader.global(g, what), Check.ARGUMENT);
            }
        }
        for (int g : new int[] {-1, 7, 29, 30, 31, Check.LOW, Check.HIGH}) {
            Check.same("global(" + g + ", 0)", () -> reader.global(g, 0), Check.INDEX);
            Check.same("global(" + g + ", 3)", () -> reader.global(g, 3), Check.INDEX);
        }
    }

    private static void initials(WasmReader reader) {
        long[] due = {0, 0, 0, -1, 0, 2, 100};
        for (int g = 0; g < due.length; g++) {
            Check.same("initial(" + g + ")", reader.initial(g), due[g]);
        }
        for (int g : new int[] {-1, 7, 29, 30, 31, Check.LOW, Check.HIGH}) {
            Check.same("initial(" + g + ")", () -> reader.initial(g), Check.INDEX);
        }
    }

    private static void nothingIsLeftOfTheModuleBefore() {
        WasmReader reader = Wasm.reader(fullModule());
        byte[] small = Wasm.module(Wasm.section(1, "01 60 00 00"), Wasm.section(2, "02 00 00 00 00 00 00 03 7f 00"),
                Wasm.section(7, "01 01 7a 00 00"));
        Check.same("read of a small module", Wasm.read(reader, small), 0);
        int[] due = {1, 2, 1, 1, 1, 1, 0, 0, 0, 0, -1};
        for (int what = 0; what < due.length; what++) {
            Check.same("count(" + what + ") of the small one", reader.count(what), due[what]);
        }
        Check.same("its function", reader.function(0, 0), 0);
        Check.same("its export", reader.export(0, 10), 'z');
        Check.same("its global", reader.global(0, 0), 0);
        Check.same("its initial", reader.initial(0), 0);
        Check.same("no second function", () -> reader.function(1, 0), Check.INDEX);
        Check.same("no second byte", () -> reader.export(0, 11), Check.ARGUMENT);
        byte[] own = Wasm.body("00 00", "00", "0b", Wasm.section(6, "01 7e 00 42 09 0b"));
        Check.same("read of another", Wasm.read(reader, own), 0);
        Check.same("its function has no locals", () -> reader.function(0, 10), Check.ARGUMENT);
        Check.same("its global is its own", reader.global(0, 2), 1);
        Check.same("the small one again", Wasm.read(reader, small), 0);
        Check.same("its function has no body", reader.function(0, 3), 0);
        Check.same("its global is imported", reader.initial(0), 0);
        Check.same("the full one again", Wasm.read(reader, fullModule()), 0);
        counts(reader);
        functions(reader);
        exports(reader);
        globals(reader);
        initials(reader);
    }

    private static void feedingKeepsTheModule() {
        WasmReader reader = Wasm.reader(fullModule());
        for (int n = 0; n < 50; n++) {
            reader.feed(-1, -1, -1, -1, -1);
        }
        functions(reader);
        exports(reader);
        reader.end(0);
        globals(reader);
        initials(reader);
        counts(reader);
    }
}
