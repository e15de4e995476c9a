/** Promise 6: function, without a MODULE, of no such function, for others, and for a k that there is not. */
public final class FunctionTest {
    public static void main(String[] args) {
        withoutModule();
        noSuchFunction();
        others();
        parametersAndResult();
        locals();
        typesOfLocals();
        bytes();
        imported();
        lastOfMany();
        Check.finish("FunctionTest");
    }

    private static void withoutModule() {
        WasmReader reader = new WasmReader();
        for (int f : new int[] {-1, 0, 1, 60, Check.LOW, Check.HIGH}) {
            for (int what : new int[] {-1, 0, 3, 4, 10, 40, Check.LOW, Check.HIGH}) {
                Check.same("function without a module", () -> reader.function(f, what), Check.STATE);
            }
        }
    }

    private static void noSuchFunction(int imported, int own) {
        WasmReader reader = Wasm.reader(Sections.functions(imported, own).bytes());
        int all = imported + own;
        for (int f : new int[] {Check.LOW, -2, -1, all, all + 1, 60, 61, 256, Check.HIGH}) {
            for (int what : new int[] {0, 3, 10, -1, 4, Check.HIGH}) {
                Check.same("function(" + f + ", " + what + ") of " + all, () -> reader.function(f, what), Check.INDEX);
            }
        }
        for (int f = 0; f < all; f++) {
            Check.same("function(" + f + ", 3) of " + all, reader.function(f, 3), f < imported ? 0 : 1);
        }
    }

    private static void noSuchFunction() {
        noSuchFunction(0, 0);
        noSuchFunction(0, 1);
        noSuchFunction(1, 0);
        noSuchFunction(2, 3);
        noSuchFunction(0, 59);
        noSuchFunction(0, 60);
        noSuchFunction(30, 30);
    }

    private static void others() {
        // Of no parameters and locals, of one of either, and of 30.
        String[] types = {"00 00", "01 7e 00", "00 00", "00 00"};
        String[] groups = {"00", "00", "01 01 7e", "01 1e 7e"};
        int[] many = {0, 1, 1, 30};
        for (int n = 0; n < types.length; n++) {
            WasmReader reader = Wasm.reader(Sections.body(types[n], groups[n], "0b").bytes());
            for (int what : new int[] {Check.LOW, Check.LOW + 10, -10, -1, 4, 5, 8, 9, 10 + many[n], 11 + many[n],
                40, 41, 42, 73, 74, 266, Check.HIGH}) {
                Check.same("function(0, " + what + ")", () -> reader.function(0, what), Check.ARGUMENT);
            }
            for (int k = 0; k < many[n]; k++) {
                Check.same("function(0, 10 + " + k + ")", reader.function(0, 10 + k), 1);
            }
        }
    }

    private static void parametersAndResult() {
        for (int many = 0; many <= 6; many++) {
            byte[] parameters = Wasm.many(many, "7f");
            WasmReader without = Wasm.reader(Sections.body(Wasm.bytes(parameters, "00"), "00", "0b").bytes());
            Check.same("parameters", without.function(0, 0), many);
            Check.same("no result", without.function(0, 1), 0);
            for (String result : new String[] {"7f", "7e"}) {
                WasmReader with = Wasm.reader(
                        Sections.body(Wasm.bytes(parameters, "01", result), "00", "00 0b").bytes());
                Check.same("parameters", with.function(0, 0), many);
                Check.same("a result", with.function(0, 1), 1);
            }
        }
    }

    private static void locals() {
        String[] groups = {"00", "01 00 7f", "01 01 7f", "02 01 7f 01 7e", "03 01 7f 00 7e 02 7f", "01 17 7f",
            "01 18 7f", "02 0c 7e 0c 7f"};
        int[] due = {0, 0, 1, 2, 3, 23, 24, 24};
        for (int n = 0; n < groups.length; n++) {
            WasmReader six = Wasm.reader(Sections.body("06 7f 7e 7f 7e 7f 7e 00", groups[n], "0b").bytes());
            Check.same("locals without the six parameters", six.function(0, 2), due[n]);
            Check.same("the parameters", six.function(0, 0), 6);
            WasmReader none = Wasm.reader(Sections.body("00 00", groups[n], "0b").bytes());
            Check.same("locals without parameters", none.function(0, 2), due[n]);
        }
        for (int many : new int[] {29, 30}) {
            WasmReader reader = Wasm.reader(Sections.body("00 00", Wasm.bytes("01", many, "7f"), "0b").bytes());
            Check.same("the most locals", reader.function(0, 2), many);
        }
    }

    private static void typesOfLocals() {
        WasmReader mixed = Wasm.reader(Sections.body("06 7e 7f 7f 7f 7f 7e 00", "03 16 7f 01 7e 01 7f", "0b").bytes());
        for (int k = 0; k < 30; k++) {
            Check.same("local " + k + " of 30", mixed.function(0, 10 + k), k == 0 || k == 5 || k == 28 ? 1 : 0);
        }
        Check.same("local 30 of 30", () -> mixed.function(0, 40), Check.ARGUMENT);
        for (int one = 0; one < 30; one++) {
            WasmReader reader = Wasm.reader(Sections.body("00 00",
                    Wasm.bytes("03", one, "7f 01 7e", 29 - one, "7f"), "0b").bytes());
            for (int k = 0; k < 30; k++) {
                Check.same("local " + k + " of 30", reader.function(0, 10 + k), k == one ? 1 : 0);
            }
        }
        // The last of 29 is there, the one behind it is not.
        WasmReader less = Wasm.reader(Sections.body("01 7e 00", "01 1c 7e", "0b").bytes());
        Check.same("local 28 of 29", less.function(0, 38), 1);
        Check.same("local 29 of 29", () -> less.function(0, 39), Check.ARGUMENT);
    }

    private static void bytes() {
        String[] bodies = {"0b", "01 0b", "41 00 1a 0b", "41 e4 00 1a 0b", "02 40 0b 0b", "0c 80 80 80 80 00 0b"};
        int[] due = {1, 2, 4, 5, 4, 7};
        for (int n = 0; n < bodies.length; n++) {
            for (String locals : new String[] {"00", "01 01 7f", "80 00", "02 01 7f 81 00 7e"}) {
                WasmReader reader = Wasm.reader(Sections.body("00 00", locals, bodies[n]).bytes());
                Check.same("bytes of " + bodies[n], reader.function(0, 3), due[n]);
            }
        }
        for (int many : new int[] {126, 127, 128, 255, 256, 257, 3000, 3960}) {
            WasmReader reader = Wasm.reader(
                    Sections.body("00 00", "00", Wasm.bytes(Wasm.times(many, "01"), "0b")).bytes());
            Check.same("bytes", reader.function(0, 3), many + 1);
        }
    }

    private static void imported() {
        WasmReader reader = Wasm.reader(Sections.none()
                .with(1, "02 60 00 00 60 06 7e 7f 7f 7f 7f 7e 01 7e")
                .with(2, "02 00 00 00 01 00 00 00 00").with(3, "01 01")
                .with(10, "01", Wasm.sized("01 02 7e", "20 00 0b")).bytes());
        int[][] due = {{6, 1, 0, 0}, {0, 0, 0, 0}, {6, 1, 2, 3}};
        int[][] types = {{1, 0, 0, 0, 0, 1}, {}, {1, 0, 0, 0, 0, 1, 1, 1}};
        for (int n = 0; n < due.length; n++) {
            int f = n;
            for (int what = 0; what < 4; what++) {
                Check.same("function(" + f + ", " + what + ")", reader.function(f, what), due[f][what]);
            }
            for (int k = 0; k < types[f].length; k++) {
                Check.same("function(" + f + ", 10 + " + k + ")", reader.function(f, 10 + k), types[f][k]);
            }
            Check.same("a k that there is not", () -> reader.function(f, 10 + types[f].length), Check.ARGUMENT);
        }
    }

    /** Of the 60 functions each has parameters, locals and bytes of its own. */
    private static void lastOfMany() {
        byte[] types = Wasm.unsigned(7);
        for (int parameters = 0; parameters < 7; parameters++) {
            types = Wasm.bytes(types, "60", Wasm.many(parameters, parameters % 2 == 0 ? "7f" : "7e"), "00");
        }
        byte[] functions = Wasm.unsigned(60);
        byte[] codes = Wasm.unsigned(60);
        for (int f = 0; f < 60; f++) {
            functions = Wasm.bytes(functions, f % 7);
            codes = Wasm.bytes(codes, Wasm.sized("01", f % 25, "7e", Wasm.times(f, "01"), "0b"));
        }
        WasmReader reader = Wasm.reader(Sections.none().with(1, types).with(3, functions).with(10, codes).bytes());
        for (int n = 0; n < 60; n++) {
            int f = n;
            Check.same("parameters of " + f, reader.function(f, 0), f % 7);
            Check.same("locals of " + f, reader.function(f, 2), f % 25);
            Check.same("bytes of " + f, reader.function(f, 3), f + 1);
            Check.same("no local of " + f, () -> reader.function(f, 10 + f % 7 + f % 25), Check.ARGUMENT);
        }
    }
}
