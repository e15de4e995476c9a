/** Promise 7: export, thrown as by function, and the bytes of names, to the one that there is not. */
public final class ExportTest {
    public static void main(String[] args) {
        withoutModule();
        noSuchExport();
        others();
        sortsAndNumbers();
        highestNumbers();
        nameLengths();
        nameBytes();
        lastOfMany();
        Check.finish("ExportTest");
    }

    private static void withoutModule() {
        WasmReader reader = new WasmReader();
        for (int e : new int[] {-1, 0, 1, 40, Check.LOW, Check.HIGH}) {
            for (int what : new int[] {-1, 0, 2, 3, 10, 30, Check.LOW, Check.HIGH}) {
                Check.same("export without a module", () -> reader.export(e, what), Check.STATE);
            }
        }
    }

    private static void noSuchExport() {
        for (int many : new int[] {0, 1, 2, 39, 40}) {
            WasmReader reader = Wasm.reader(Sections.exports(many).bytes());
            for (int e : new int[] {Check.LOW, -2, -1, many, many + 1, 40, 41, 256, Check.HIGH}) {
                for (int what : new int[] {0, 2, 10, -1, 3, Check.HIGH}) {
                    Check.same("export(" + e + ", " + what + ") of " + many, () -> reader.export(e, what), Check.INDEX);
                }
            }
            for (int e = 0; e < many; e++) {
                Check.same("export(" + e + ", 11) of " + many, reader.export(e, 11), e);
            }
        }
    }

    private static void others() {
        WasmReader reader = Wasm.reader(Sections.exports(2).bytes());
        for (int n : new int[] {0, 1}) {
            for (int what : new int[] {
                Check.LOW, Check.LOW + 10, -10, -1, 3, 4, 8, 9, 12, 13, 30, 31, 266, Check.HIGH}) {
                Check.same("export(" + n + ", " + what + ")", () -> reader.export(n, what), Check.ARGUMENT);
            }
        }
    }

    private static void sortsAndNumbers() {
        Sections module = Sections.functions(1, 1).with(4, "01 70 00 00").with(5, "01 00 00")
                .with(6, "02", Wasm.times(2, Sections.I32_GLOBAL))
                .with(7, "06 01 61 00 00 01 62 00 01 01 63 01 00 01 64 02 00 01 65 03 00 01 66 03 01");
        int[][] due = {{0, 0}, {0, 1}, {1, 0}, {2, 0}, {3, 0}, {3, 1}};
        WasmReader reader = Wasm.reader(module.bytes());
        for (int e = 0; e < due.length; e++) {
            Check.same("sort of " + e, reader.export(e, 0), due[e][0]);
            Check.same("number of " + e, reader.export(e, 1), due[e][1]);
            Check.same("length of the name of " + e, reader.export(e, 2), 1);
            Check.same("name of " + e, reader.export(e, 10), 'a' + e);
        }
        for (int sort = 0; sort < 4; sort++) {
            int all = sort == 1 || sort == 2 ? 1 : 2;
            Wasm.reads("the last", module.with(7, "01 00", sort, all - 1).bytes(), 0);
            Wasm.reads("the one behind the last", module.with(7, "01 00", sort, all).bytes(), 2);
        }
    }

    private static void highestNumbers() {
        WasmReader functions = Wasm.reader(Sections.functions(30, 30).with(7, "02 00 00 3b 01 61 00 1e").bytes());
        Check.same("the last of 60 functions", functions.export(0, 1), 59);
        Check.same("the first of its own", functions.export(1, 1), 30);
        WasmReader globals = Wasm.reader(Sections.globals(10, 20).with(7, "02 00 03 1d 01 61 03 0a").bytes());
        Check.same("the last of 30 globals", globals.export(0, 1), 29);
        Check.same("the first of its own", globals.export(1, 1), 10);
    }

    private static void nameLengths() {
        for (int length = 0; length <= 20; length++) {
            WasmReader reader = Wasm.reader(Sections.globals(0, 1).with(7,
                    "01", Wasm.many(length, "ff"), "03 00").bytes());
            Check.same("the length of a name", reader.export(0, 2), length);
            for (int k = 0; k < length; k++) {
                Check.same("a byte of a name", reader.export(0, 10 + k), 255);
            }
            int behind = 10 + length;
            Check.same("the byte behind a name", () -> reader.export(0, behind), Check.ARGUMENT);
            Check.same("the one behind that", () -> reader.export(0, behind + 1), Check.ARGUMENT);
            Check.same("the byte before a name", () -> reader.export(0, 9), Check.ARGUMENT);
        }
    }

    private static void nameBytes() {
        int[] due = {0, 1, 0x7f, 0x80, 0x81, 0xfe, 0xff};
        WasmReader reader = Wasm.reader(Sections.globals(0, 1).with(7,
                "01", Wasm.sized("00 01 7f 80 81 fe ff"), "03 00").bytes());
        for (int k = 0; k < due.length; k++) {
            Check.same("byte " + k, reader.export(0, 10 + k), due[k]);
        }
    }

    /** Of the 40 exports each has a name of its own, the longest ones next to empty and short ones. */
    private static void lastOfMany() {
        byte[] parts = Wasm.unsigned(40);
        for (int e = 0; e < 40; e++) {
            parts = Wasm.bytes(parts, Wasm.many(length(e), e + 1), "00", e);
        }
        WasmReader reader = Wasm.reader(Sections.functions(0, 60).with(7, parts).bytes());
        for (int n = 0; n < 40; n++) {
            int e = n;
            Check.same("number of " + e, reader.export(e, 1), e);
            Check.same("length of the name of " + e, reader.export(e, 2), length(e));
            Check.same("first byte of " + e, reader.export(e, 10), e + 1);
            Check.same("last byte of " + e, reader.export(e, 9 + length(e)), e + 1);
            Check.same("no byte of " + e, () -> reader.export(e, 10 + length(e)), Check.ARGUMENT);
        }
    }

    private static int length(int e) {
        return e % 2 == 0 ? 20 : 1 + e % 19;
    }
}
