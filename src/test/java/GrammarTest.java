/** Promise 4, the fault 1: what is malformed, at its edges, and what only looks so. */
public final class GrammarTest {
    private static final String EMPTY_TYPE = "01 60 00 00";

    public static void main(String[] args) {
        header();
        sections();
        customSections();
        numbers();
        types();
        imports();
        tablesAndMemories();
        globals();
        exportsAndStart();
        segments();
        code();
        blocks();
        operands();
        malformedComesFirst();
        Check.finish("GrammarTest");
    }

    private static void row(String what, String hex, int due) {
        Wasm.reads(what, Wasm.bytes(hex), due);
    }

    /** The sections behind a header. */
    private static void module(String what, int due, Object... sections) {
        Wasm.reads(what, Wasm.module(sections), due);
    }

    private static void body(String what, Object instructions, int due) {
        Wasm.reads(what, Wasm.body(instructions), due);
    }

    private static void header() {
        row("nothing", "", 1);
        row("the header", "00 61 73 6d 01 00 00 00", 0);
        for (int length = 1; length < 8; length++) {
            row("a part of the header", "00 61 73 6d 01 00 00 00".substring(0, 3 * length), 1);
        }
        for (int k = 0; k < 8; k++) {
            byte[] bytes = Wasm.module();
            bytes[k] ^= 1;
            Wasm.reads("a wrong byte in the header", bytes, 1);
        }
        row("a byte behind the header", "00 61 73 6d 01 00 00 00 00", 1);
    }

    private static void sections() {
        for (int id = 1; id <= 11; id++) {
            if (id != 8) {
                module("an empty vector", 0, Wasm.section(id, "00"));
                module("an empty section", 1, Wasm.section(id, ""));
                module("a byte too many in a section", 1, Wasm.section(id, "00 00"));
                module("a section twice", 1, Wasm.section(id, "00"), Wasm.section(id, "00"));
                module("a count of what is not there", 1, Wasm.section(id, "01"));
                module("a huge count", 1, Wasm.section(id, "ff ff ff ff 0f"));
                module("a section longer than the row", 1, id, 2, 0);
                module("a size that ends too early", 1, id, "80");
            }
        }
        for (int id = 1; id <= 10; id++) {
            if (id != 8 && id != 7) {
                module("sections out of order", 1, Wasm.section(id + 1, "00"), Wasm.section(id, "00"));
            }
        }
        for (int id = 12; id < 256; id++) {
            module("an unknown section", 1, Wasm.section(id, "00"));
        }
        module("all sections in order", 0,
                Wasm.section(1, EMPTY_TYPE), Wasm.section(2, "00"), Wasm.section(3, "01 00"), Wasm.section(4, "00"),
                Wasm.section(5, "00"), Wasm.section(6, "00"), Wasm.section(7, "00"), Wasm.section(8, "00"),
                Wasm.section(9, "00"), Wasm.section(10, "01 02 00 0b"), Wasm.section(11, "00"));
        module("start twice", 1,
                Wasm.section(1, EMPTY_TYPE), Wasm.section(3, "01 00"), Wasm.section(8, "00"), Wasm.section(8, "00"),
                Wasm.section(10, "01 02 00 0b"));
        module("a size in five bytes", 0, "01 81 80 80 80 00 00");
        module("a size in six bytes", 1, "01 81 80 80 80 80 00 00");
        module("a section that needs a byte of the next", 1, "01 03 01 60 00 00", Wasm.section(3, "00"));
    }

    private static void customSections() {
        byte[] custom = Wasm.section(0, "03 61 62 63 ff 0b");
        module("custom sections anywhere", 0,
                custom, custom, Wasm.section(1, "00"), custom, Wasm.section(3, "00"), custom,
                Wasm.section(11, "00"), custom, custom);
        module("a custom section without a name", 1, Wasm.section(0, ""));
        module("a custom section of an empty name", 0, Wasm.section(0, "00"));
        module("a custom section whose name fills it", 0, Wasm.section(0, "02 61 62"));
        module("a custom section whose name is too long for it", 1, Wasm.section(0, "03 61 62"), "00 01 00");
        module("a custom name of bytes that are no UTF-8", 0, Wasm.section(0, "03 ff c0 80"));
        module("a custom name of 21 bytes", 0, Wasm.section(0, Wasm.many(21, "61")));
        module("a custom name of 1000 bytes", 0, Wasm.section(0, Wasm.many(1000, "ff"), "01"));
        module("a custom section does not reset the order", 1,
                Wasm.section(3, "00"), custom, Wasm.section(1, "00"));
    }

    private static void numbers() {
        body("i32 of one byte", "41 3f 1a 0b", 0);
        body("i32 of five bytes, positive", "41 ff ff ff ff 07 1a 0b", 0);
        body("i32 of five bytes, negative", "41 80 80 80 80 78 1a 0b", 0);
        body("i32 of five bytes, with a long sign", "41 ff ff ff ff 7f 1a 0b", 0);
        body("i32 above the highest", "41 80 80 80 80 08 1a 0b", 1);
        body("i32 below the lowest", "41 ff ff ff ff 77 1a 0b", 1);
        body("i32 with wrong bits above its sign", "41 80 80 80 80 70 1a 0b", 1);
        body("i32 of six bytes", "41 80 80 80 80 80 00 1a 0b", 1);
        body("i64 of ten bytes, positive", "42 ff ff ff ff ff ff ff ff ff 00 1a 0b", 0);
        body("i64 of ten bytes, negative", "42 80 80 80 80 80 80 80 80 80 7f 1a 0b", 0);
        body("i64 above the highest", "42 80 80 80 80 80 80 80 80 80 01 1a 0b", 1);
        body("i64 below the lowest", "42 ff ff ff ff ff ff ff ff ff 7e 1a 0b", 1);
        body("i64 of eleven bytes", "42 80 80 80 80 80 80 80 80 80 80 00 1a 0b", 1);
        body("a label of five bytes", "0c 80 80 80 80 00 0b", 0);
        body("a label of six bytes", "0c 80 80 80 80 80 00 0b", 1);
        body("the highest label", "0c ff ff ff ff 0f 0b", 2);
        body("a label above the highest", "0c 80 80 80 80 10 0b", 1);
        body("a label with a bit beyond", "0c 80 80 80 80 40 0b", 1);
    }

    private static void types() {
        module("a type", 0, Wasm.section(1, "01 60 02 7f 7e 01 7e"));
        module("six parameters", 0, Wasm.section(1, "01 60 06 7f 7e 7f 7e 7f 7e 00"));
        module("seven parameters", 1, Wasm.section(1, "01 60 07 7f 7e 7f 7e 7f 7e 7f 00"));
        module("seven parameters, of which one is missing", 1, Wasm.section(1, "01 60 07 7f 7f 7f 7f 7f 7f 00"));
        module("two results", 1, Wasm.section(1, "01 60 00 02 7f 7f"));
        module("two results, of which one is missing", 1, Wasm.section(1, "02 60 00 02 7f 60 00 00"));
        for (int code = 0; code < 256; code++) {
            int due = code == 0x7f || code == 0x7e ? 0 : 1;
            module("a parameter's type", due, Wasm.section(1, "01 60 01", code, "00"));
            module("a result's type", due, Wasm.section(1, "01 60 00 01", code));
            module("another form of type", code == 0x60 ? 0 : 1, Wasm.section(1, "01", code, "00 00"));
        }
    }

    private static void imports() {
        byte[] type = Wasm.section(1, EMPTY_TYPE);
        module("an imported function", 0, type, Wasm.section(2, "01 01 61 01 62 00 00"));
        module("an imported table", 0, Wasm.section(2, "01 00 00 01 70 00 05"));
        module("an imported memory", 0, Wasm.section(2, "01 00 00 02 01 01 02"));
        module("an imported global", 0, Wasm.section(2, "01 00 00 03 7e 01"));
        for (int sort = 4; sort < 256; sort++) {
            module("an import of another sort", 1, type, Wasm.section(2, "01 00 00", sort, "00 00"));
            module("an import of another sort and nothing", 1, type, Wasm.section(2, "01 00 00", sort));
        }
        module("an import without its last byte", 1, Wasm.section(2, "01 00 00 03 7e"));
        module("an import's name too long", 1, type, Wasm.section(2, "01 00 05 61 00 00"));
        module("names of any bytes", 0, type, Wasm.section(2, "01 02 ff fe 01 80 00 00"));
    }

    private static void tablesAndMemories() {
        for (int code = 0; code < 256; code++) {
            module("a table's type", code == 0x70 ? 0 : 1, Wasm.section(4, "01", code, "00 00"));
            int due = code > 1 ? 1 : 0;
            module("a table's limits", due, Wasm.section(4, "01 70", code, "00", code == 0 ? "" : "00"));
            module("a memory's limits", due, Wasm.section(5, "01", code, "00", code == 0 ? "" : "00"));
        }
        module("limits without the most", 1, Wasm.section(5, "01 01 00"));
        module("limits with a most that is not due", 1, Wasm.section(5, "01 00 00 00"));
        module("a table's size that does not end", 1, Wasm.section(4, "01 70 00 c9"));
    }

    private static void globals() {
        module("an i32", 0, Wasm.section(6, "01 7f 00 41 00 0b"));
        module("an i64 that may be changed", 0, Wasm.section(6, "01 7e 01 42 00 0b"));
        for (int code = 0; code < 256; code++) {
            boolean known = code == 0x7f || code == 0x7e;
            module("a global's type", known ? code == 0x7f ? 0 : 2 : 1, Wasm.section(6, "01", code, "00 41 00 0b"));
            module("whether it may be changed", code > 1 ? 1 : 0, Wasm.section(6, "01 7f", code, "41 00 0b"));
            if (code != 0x41 && code != 0x42 && code != 0x23) {
                module("another INITIAL", 1, Wasm.section(6, "01 7f 00", code, "00 0b"));
            }
            if (code != 0x0b) {
                module("an INITIAL that does not end", 1, Wasm.section(6, "01 7f 00 41 00", code));
            }
        }
        module("no INITIAL", 1, Wasm.section(6, "01 7f 00 0b"));
        module("two constants", 1, Wasm.section(6, "01 7f 00 41 00 41 00 0b"));
        module("a nop before the end", 1, Wasm.section(6, "01 7f 00 41 00 01 0b"));
        module("a sum", 1, Wasm.section(6, "01 7f 00 41 00 41 00 6a 0b"));
        module("an f32", 1, Wasm.section(6, "01 7d 00 43 00 00 00 00 0b"));
        module("an i32 that is too high", 1, Wasm.section(6, "01 7f 00 41 ff ff ff ff 0f 0b"));
    }

    private static void exportsAndStart() {
        byte[] global = Wasm.section(6, "01 7f 00 41 00 0b");
        for (int sort = 4; sort < 256; sort++) {
            module("an export of another sort", 1, global, Wasm.section(7, "01 01 61", sort, "00"));
        }
        module("an export", 0, global, Wasm.section(7, "01 01 61 03 00"));
        module("an export of bytes that are no UTF-8", 0, global, Wasm.section(7, "01 02 ff c0 03 00"));
        module("an export's name too long", 1, global, Wasm.section(7, "01 04 61 03 00"));
        module("an empty start", 1, Wasm.section(8, ""));
        module("a start with a byte too many", 1, Wasm.section(8, "00 00"));
    }

    private static void segments() {
        byte[] memory = Wasm.section(5, "01 00 01");
        module("data", 0, memory, Wasm.section(11, "01 00 41 00 0b 02 ff ff"));
        module("data too short", 1, memory, Wasm.section(11, "01 00 41 00 0b 03 ff ff"));
        module("data too long", 1, memory, Wasm.section(11, "01 00 41 00 0b 01 ff ff"));
        module("data with another INITIAL", 1, memory, Wasm.section(11, "01 00 41 00 41 00 6a 0b 00"));
        module("data without an INITIAL", 1, memory, Wasm.section(11, "01 00 0b 00"));
        module("the number of the memory in two bytes", 0, memory, Wasm.section(11, "01 80 00 41 00 0b 00"));
        byte[] table = Wasm.section(4, "01 70 00 01");
        module("an element", 0, table, Wasm.section(9, "01 00 41 00 0b 00"));
        module("an element too short", 1, table, Wasm.section(9, "01 00 41 00 0b 01"));
        module("an element without an INITIAL", 1, table, Wasm.section(9, "01 00 0b 00"));
        module("an element that is passive", 1, table, Wasm.section(9, "01 01 00 00"));
    }

    private static void code() {
        byte[] type = Wasm.section(1, EMPTY_TYPE);
        byte[] function = Wasm.section(3, "01 00");
        module("functions without code", 1, type, function);
        module("code without functions", 1, type, Wasm.section(10, "01 02 00 0b"));
        module("fewer codes than functions", 1, type, Wasm.section(3, "02 00 00"), Wasm.section(10, "01 02 00 0b"));
        module("more codes than functions", 1, type, function, Wasm.section(10, "02 02 00 0b 02 00 0b"));
        module("more codes than functions, with locals", 1,
                type, function, Wasm.section(10, "02 02 00 0b 04 01 1f 7f 0b"));
        module("61 codes with locals and no functions", 1, type, Wasm.section(10, Wasm.many(61, "04 01 01 7f 0b")));
        module("an imported function needs no code", 0, type, Wasm.section(2, "01 00 00 00 00"));
        module("an imported function with code", 1,
                type, Wasm.section(2, "01 00 00 00 00"), Wasm.section(10, "01 02 00 0b"));
        module("no functions and no codes", 0, type, Wasm.section(3, "00"), Wasm.section(10, "00"));
        module("code of no bytes", 1, type, function, Wasm.section(10, "01 00"));
        module("code without instructions", 1, type, function, Wasm.section(10, "01 01 00"));
        module("code with a byte behind its end", 1, type, function, Wasm.section(10, "01 03 00 0b 01"));
        module("code with two ends", 1, type, function, Wasm.section(10, "01 03 00 0b 0b"));
        module("code that ends beyond its size", 1, type, function, Wasm.section(10, "01 02 00 01 0b"));
        module("code whose size is that of the next too", 1,
                type, Wasm.section(3, "02 00 00"), Wasm.section(10, "02 05 00 0b 02 00 0b"));
        module("locals of another type", 1, type, function, Wasm.section(10, "01 04 01 01 7d 0b"));
        module("locals that are not there", 1, type, function, Wasm.section(10, "01 03 02 01 7f"));
        module("no locals of a type", 0, type, function, Wasm.section(10, "01 06 02 00 7f 00 7e 0b"));
        module("4294967295 locals", 3, type, function, Wasm.section(10, "01 08 01 ff ff ff ff 0f 7f 0b"));
        module("4294967296 locals", 1, type, function, Wasm.section(10, "01 0a 02 ff ff ff ff 0f 7f 01 7e 0b"));
        module("4294967295 locals in two groups", 3,
                type, function, Wasm.section(10, "01 0a 02 fe ff ff ff 0f 7f 01 7e 0b"));
    }

    private static void blocks() {
        for (int opcode = 2; opcode <= 4; opcode++) {
            for (int code = 0; code < 256; code++) {
                boolean known = code == 0x7f || code == 0x7e || code == 0x40;
                // Behind unreachable an if may pop what it likes; its empty else is wrong for a result.
                int due = !known ? 1 : opcode == 4 && code != 0x40 ? 2 : 0;
                Wasm.reads("a block's type", Wasm.body("00 00", "00",
                        String.format("00 %02x %02x 00 0b 00 0b", opcode, code)), due);
            }
        }
        body("a block that does not end", "02 40 0b", 1);
        body("an end too many", "02 40 0b 0b 0b", 1);
        body("else of nothing", "05 0b", 1);
        body("else of a block", "02 40 05 0b 0b", 1);
        body("else of a loop", "03 40 05 0b 0b", 1);
        body("else of an if", "41 00 04 40 05 0b 0b", 0);
        body("two elses of an if", "41 00 04 40 05 05 0b 0b", 1);
        body("else behind the end of an if", "41 00 04 40 0b 05 0b", 1);
        body("else in a block in an if", "41 00 04 40 02 40 05 0b 0b 0b", 1);
        body("else behind a block in an if", "41 00 04 40 02 40 0b 05 0b 0b", 0);
        body("else of an if in an else", "41 00 04 40 05 41 00 04 40 05 0b 0b 0b", 0);
        body("else of an if behind an if with an else", "41 00 04 40 05 0b 41 00 04 40 05 0b 0b", 0);
        Wasm.reads("else of a block 700 deep", Wasm.body(
                Wasm.bytes(Wasm.times(700, "02 40"), "05", Wasm.times(701, "0b"))), 1);
        Wasm.reads("else of an if 700 deep", Wasm.body(
                Wasm.bytes(Wasm.times(700, "41 00 04 40"), "05", Wasm.times(701, "0b"))), 3);
        Wasm.reads("a row full of blocks", Wasm.body(
                Wasm.times(1980, "02 40")), 1);
    }

    private static void operands() {
        body("br without its label", "0c", 1);
        body("br_table without its labels", "41 00 0e 02 00 00", 1);
        body("br_table with a huge count", "41 00 0e ff ff ff ff 0f 00 0b", 1);
        byte[] table = Wasm.section(4, "01 70 00 01");
        byte[] memory = Wasm.section(5, "01 00 01");
        for (int code = 0; code < 256; code++) {
            int due = code == 0 ? 0 : 1;
            String last = String.format("%02x", code);
            Wasm.reads("call_indirect's last byte",
                    Wasm.body("00 00", "00", "41 00 11 00 " + last + " 0b", table), due);
            Wasm.reads("memory.size's byte", Wasm.body("00 00", "00", "3f " + last + " 1a 0b", memory), due);
            Wasm.reads("memory.grow's byte", Wasm.body("00 00", "00", "41 00 40 " + last + " 1a 0b", memory), due);
        }
        Wasm.reads("memory.size's byte in two", Wasm.body("00 00", "00", "3f 80 00 1a 0b", memory), 1);
        Wasm.reads("an offset too high", Wasm.body("00 00", "00", "41 00 28 00 80 80 80 80 10 1a 0b", memory), 1);
        Wasm.reads("the highest offset", Wasm.body("00 00", "00", "41 00 28 00 ff ff ff ff 0f 1a 0b", memory), 0);
        body("f32.const", "43 00 00 00 00 1a 0b", 1);
        body("f64.const", "44 00 00 00 00 00 00 00 00 1a 0b", 1);
        body("a malformed instruction that is never reached", "00 06 0b", 1);
    }

    private static void malformedComesFirst() {
        byte[] tooLarge = Wasm.section(5, "01 00 03");
        byte[] invalid = Wasm.section(6, "01 7f 00 42 00 0b");
        module("too large", 3, tooLarge);
        module("not valid", 2, invalid);
        module("both", 3, tooLarge, invalid);
        module("both, and malformed at the end", 1, tooLarge, invalid, "0b");
        module("malformed before them", 1, Wasm.section(1, "01"), tooLarge, invalid);
        Wasm.reads("malformed in the last of 61 functions", Wasm.module(
                Wasm.section(1, EMPTY_TYPE), Wasm.section(3, Wasm.many(61, "00")),
                Wasm.section(10, "3d", Wasm.times(60, "02 00 0b"), "03 00 05 0b")), 1);
        Wasm.reads("malformed below 31 blocks", Wasm.body(
                Wasm.bytes(Wasm.times(31, "02 40"), "06", Wasm.times(32, "0b"))), 1);
        Wasm.reads("malformed behind what is not valid", Wasm.body("6a 06 0b"), 1);
    }
}
