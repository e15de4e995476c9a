/** Promise 8: global, thrown as by function, for each sort of global. */
public final class GlobalTest {
    public static void main(String[] args) {
        withoutModule();
        noSuchGlobal();
        others();
        eachSort();
        lastOfMany();
        Check.finish("GlobalTest");
    }

    private static void withoutModule() {
        WasmReader reader = new WasmReader();
        for (int g : new int[] {-1, 0, 1, 30, Check.LOW, Check.HIGH}) {
            for (int what : new int[] {-1, 0, 2, 3, Check.LOW, Check.HIGH}) {
                Check.same("global without a module", () -> reader.global(g, what), Check.STATE);
            }
        }
    }

    private static void noSuchGlobal(int imported, int own) {
        WasmReader reader = Wasm.reader(Sections.globals(imported, own).bytes());
        int all = imported + own;
        for (int g : new int[] {Check.LOW, -2, -1, all, all + 1, 30, 31, 256, Check.HIGH}) {
            for (int what : new int[] {0, 2, -1, 3, Check.HIGH}) {
                Check.same("global(" + g + ", " + what + ") of " + all, () -> reader.global(g, what), Check.INDEX);
            }
        }
        for (int g = 0; g < all; g++) {
            Check.same("global(" + g + ", 2) of " + all, reader.global(g, 2), g < imported ? 0 : 1);
        }
    }

    private static void noSuchGlobal() {
        noSuchGlobal(0, 0);
        noSuchGlobal(0, 1);
        noSuchGlobal(1, 0);
        noSuchGlobal(2, 3);
        noSuchGlobal(0, 29);
        noSuchGlobal(0, 30);
        noSuchGlobal(30, 0);
        noSuchGlobal(29, 1);
    }

    private static void others() {
        WasmReader reader = Wasm.reader(Sections.globals(1, 1).bytes());
        for (int g : new int[] {0, 1}) {
            for (int what : new int[] {Check.LOW, -2, -1, 3, 4, 9, 10, 11, 256, Check.HIGH}) {
                Check.same("global(" + g + ", " + what + ")", () -> reader.global(g, what), Check.ARGUMENT);
            }
        }
    }

    private static void eachSort() {
        // Imported: i32, i64, either of which may be changed or not; then the same, as constants and as others.
        WasmReader reader = Wasm.reader(Sections.none()
                .with(2, "04 00 00 03 7f 00 00 00 03 7e 00 00 00 03 7f 01 00 00 03 7e 01")
                .with(6, "08", "7f 00 41 00 0b", "7e 00 42 00 0b", "7f 01 41 00 0b", "7e 01 42 00 0b",
                        "7f 00 23 00 0b", "7e 00 23 01 0b", "7f 01 23 00 0b", "7e 01 23 01 0b").bytes());
        for (int g = 0; g < 12; g++) {
            Check.same("global(" + g + ", 0)", reader.global(g, 0), g % 2);
            Check.same("global(" + g + ", 1)", reader.global(g, 1), g % 4 / 2);
            Check.same("global(" + g + ", 2)", reader.global(g, 2), g / 4);
        }
    }

    private static void lastOfMany() {
        byte[] parts = Wasm.unsigned(30);
        for (int g = 0; g < 30; g++) {
            parts = Wasm.bytes(parts, g % 3 == 0 ? "7e" : "7f", g % 2, g % 3 == 0 ? "42" : "41", "00 0b");
        }
        WasmReader reader = Wasm.reader(Sections.none().with(6, parts).bytes());
        for (int g = 0; g < 30; g++) {
            Check.same("type of " + g, reader.global(g, 0), g % 3 == 0 ? 1 : 0);
            Check.same("whether " + g + " may be changed", reader.global(g, 1), g % 2);
        }
    }
}
