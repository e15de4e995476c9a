/** Promise 9: initial, constants at both ends of an i32 and of an i64, imported globals, and another global. */
public final class InitialTest {
    public static void main(String[] args) {
        withoutModule();
        noSuchGlobal();
        constantsOfI32();
        constantsOfI64();
        imported();
        anotherGlobal();
        Check.finish("InitialTest");
    }

    private static void withoutModule() {
        WasmReader reader = new WasmReader();
        for (int g : new int[] {Check.LOW, -1, 0, 1, 29, 30, Check.HIGH}) {
            Check.same("initial without a module", () -> reader.initial(g), Check.STATE);
        }
    }

    private static void noSuchGlobal(int imported, int own) {
        WasmReader reader = Wasm.reader(Sections.globals(imported, own).bytes());
        int all = imported + own;
        for (int g : new int[] {Check.LOW, -2, -1, all, all + 1, 30, 31, 256, Check.HIGH}) {
            Check.same("initial(" + g + ") of " + all, () -> reader.initial(g), Check.INDEX);
        }
        for (int g = 0; g < all; g++) {
            Check.same("initial(" + g + ") of " + all, reader.initial(g), g < imported ? 0 : 5);
        }
    }

    private static void noSuchGlobal() {
        noSuchGlobal(0, 0);
        noSuchGlobal(0, 1);
        noSuchGlobal(1, 0);
        noSuchGlobal(2, 3);
        noSuchGlobal(0, 29);
        noSuchGlobal(0, 30);
        noSuchGlobal(30, 0);
        noSuchGlobal(29, 1);
    }

    /** The bytes of a signed number: as few as there can be, or more of its sign. */
    private static byte[] signed(long value, int least) {
        byte[] out = {};
        long left = value;
        while (out.length + 1 < least || left > 63 || left < -64) {
            out = Wasm.bytes(out, (int) (left & 0x7f | 0x80));
            left >>= 7;
        }
        return Wasm.bytes(out, (int) (left & 0x7f));
    }

    private static Sections constant(String type, String opcode, Object number) {
        return Sections.none().with(6, "01", type, "00", opcode, number, "0b");
    }

    private static void tells(String type, String opcode, long value, int most) {
        for (int least = 1; least <= most; least++) {
            byte[] number = signed(value, least);
            WasmReader reader = Wasm.reader(constant(type, opcode, number).bytes());
            Check.same("initial of " + Wasm.hexAll(number), reader.initial(0), value);
            Check.same("it is a constant", reader.global(0, 2), 1);
        }
        if (signed(value, 1).length <= most) {
            Wasm.reads("a byte too many", constant(type, opcode, signed(value, most + 1)).bytes(), 1);
        }
    }

    /** Where a number needs one bit more, and both numbers next to that. */
    private static void tellsRound(String type, String opcode, int bits, int most) {
        for (int bit = 0; bit < bits; bit++) {
            for (long near = -1; near <= 1; near++) {
                tells(type, opcode, (1L << bit) + near, most);
                tells(type, opcode, -(1L << bit) + near, most);
            }
        }
    }

    private static void constantsOfI32() {
        tellsRound("7f", "41", 31, 5);
        for (long value : new long[] {Check.HIGH, Check.HIGH - 1L, Check.LOW, Check.LOW + 1L, 0, -1, 1}) {
            tells("7f", "41", value, 5);
        }
        for (long value : new long[] {Check.HIGH + 1L, Check.HIGH + 2L, Check.LOW - 1L, Check.LOW - 2L,
            0xffffffffL, -0xffffffffL}) {
            Wasm.reads("no i32 " + value, constant("7f", "41", signed(value, 5)).bytes(), 1);
        }
        // The bits above the sign in the last byte have to be as the sign.
        for (int last = 0; last < 128; last++) {
            int due = last < 8 || last >= 0x78 ? 0 : 1;
            Wasm.reads("an i32 of five bytes", constant("7f", "41", Wasm.bytes("80 80 80 80", last)).bytes(), due);
        }
        Wasm.reads("an i32 that does not end", constant("7f", "41", "80 80 80 80 80").bytes(), 1);
    }

    private static void constantsOfI64() {
        tellsRound("7e", "42", 63, 10);
        for (long value : new long[] {Long.MAX_VALUE, Long.MAX_VALUE - 1, Long.MIN_VALUE, Long.MIN_VALUE + 1, 0, -1, 1,
            Check.HIGH, Check.HIGH + 1L, Check.LOW, Check.LOW - 1L, 0xffffffffL, -0xffffffffL}) {
            tells("7e", "42", value, 10);
        }
        for (int last = 0; last < 128; last++) {
            int due = last == 0 || last == 0x7f ? 0 : 1;
            Wasm.reads("an i64 of ten bytes",
                    constant("7e", "42", Wasm.bytes(Wasm.times(9, "80"), last)).bytes(), due);
        }
        Wasm.reads("an i64 that does not end", constant("7e", "42", Wasm.times(10, "80")).bytes(), 1);
    }

    private static void imported() {
        WasmReader reader = Wasm.reader(Sections.none()
                .with(2, "04 00 00 03 7f 00 00 00 03 7e 00 00 00 03 7f 01 00 00 03 7e 01")
                .with(6, "01 7e 00 42 7f 0b").bytes());
        for (int g = 0; g < 4; g++) {
            Check.same("initial of an imported one", reader.initial(g), 0);
        }
        Check.same("initial of the first of its own", reader.initial(4), -1);
        // What an object told of another module's constants must not come back for imported ones.
        Check.same("read of constants", Wasm.read(reader, Sections.globals(0, 30).bytes()), 0);
        Check.same("the first of them", reader.initial(0), 5);
        Check.same("read of imported ones", Wasm.read(reader, Sections.globals(30, 0).bytes()), 0);
        Check.same("the first of them", reader.initial(0), 0);
        Check.same("the last of them", reader.initial(29), 0);
    }

    private static void anotherGlobal() {
        for (int imported : new int[] {1, 2, 28, 29}) {
            for (int other : new int[] {0, imported / 2, imported - 1}) {
                Sections module = Sections.globals(imported, 0);
                WasmReader reader = Wasm.reader(module.with(6, "01 7f 00 23", other, "0b").bytes());
                Check.same("the number of another", reader.initial(imported), other);
                Check.same("it is another", reader.global(imported, 2), 2);
                Check.same("that is imported", reader.initial(other), 0);
            }
            Wasm.reads("of itself", Sections.globals(imported, 0).with(6,
                    "01 7f 00 23", imported, "0b").bytes(), 2);
        }
        Wasm.reads("of one that is its own", Sections.globals(1, 0).with(6,
                "02 7f 00 41 00 0b 7f 00 23 01 0b").bytes(), 2);
        // Functions, tables and memories among the imports are not numbered with the globals.
        WasmReader among = Wasm.reader(Sections.none().with(1, Sections.EMPTY_TYPE)
                .with(2, "05 00 00 00 00 00 00 03 7e 00 00 00 01 70 00 00 00 00 02 00 00 00 00 03 7f 00")
                .with(6, "02 7f 00 23 01 0b 7e 00 23 00 0b").bytes());
        Check.same("the number among all globals", among.initial(2), 1);
        Check.same("the number among all globals", among.initial(3), 0);
    }
}
