/** A module by its sections: they come in their order, in whichever order they are set. */
final class Sections {
    static final String EMPTY_TYPE = "01 60 00 00";
    static final String EMPTY_BODY = "02 00 0b";
    static final String I32_GLOBAL = "7f 00 41 05 0b";

    private final byte[][] contents = new byte[12][];
    private byte[] before = {};
    private byte[] behind = {};

    private Sections copy() {
        Sections copy = new Sections();
        System.arraycopy(contents, 0, copy.contents, 0, contents.length);
        copy.before = before;
        copy.behind = behind;
        return copy;
    }

    /** The same module with a section set, or set anew. */
    Sections with(int id, Object... parts) {
        Sections copy = copy();
        copy.contents[id] = Wasm.bytes(parts);
        return copy;
    }

    /** The same module with bytes between the header and the first section. */
    Sections before(Object... parts) {
        Sections copy = copy();
        copy.before = Wasm.bytes(parts);
        return copy;
    }

    /** The same module with bytes behind the last section. */
    Sections behind(Object... parts) {
        Sections copy = copy();
        copy.behind = Wasm.bytes(parts);
        return copy;
    }

    byte[] bytes() {
        byte[] row = Wasm.bytes(Wasm.HEADER, before);
        for (int id = 1; id < contents.length; id++) {
            if (contents[id] != null) {
                row = Wasm.bytes(row, Wasm.section(id, contents[id]));
            }
        }
        return Wasm.bytes(row, behind);
    }

    static Sections none() {
        return new Sections();
    }

    static Sections types(int many) {
        return none().with(1, Wasm.many(many, "60 00 00"));
    }

    static Sections functions(int imported, int own) {
        return none().with(1, EMPTY_TYPE)
                .with(2, Wasm.many(imported, "00 00 00 00"))
                .with(3, Wasm.many(own, "00"))
                .with(10, Wasm.many(own, EMPTY_BODY));
    }

    static Sections globals(int imported, int own) {
        return none().with(2, Wasm.many(imported, "00 00 03 7f 00")).with(6, Wasm.many(own, I32_GLOBAL));
    }

    /** Exports of one global, each name of two bytes that no other has. */
    static Sections exports(int many) {
        byte[] parts = Wasm.unsigned(many);
        for (int n = 0; n < many; n++) {
            parts = Wasm.bytes(parts, "02", n >> 8, n & 0xff, "03 00");
        }
        return none().with(6, "01", I32_GLOBAL).with(7, parts);
    }

    static Sections elements(int many) {
        return none().with(4, "01 70 00 01").with(9, Wasm.many(many, "00 41 00 0b 00"));
    }

    static Sections data(int many) {
        return none().with(5, "01 00 01").with(11, Wasm.many(many, "00 41 00 0b 00"));
    }

    /** A module of one function, with its type, locals and instructions. */
    static Sections body(Object type, Object locals, Object instructions) {
        return none().with(1, "01 60", type).with(3, "01 00").with(10, "01", Wasm.sized(locals, instructions));
    }
}
