/** "Terms", the fault 3: each limit, just below it, just reached, just passed and far beyond. */
public final class LimitsTest {
    private static final int FAR = 300;
    private static final String SIX = "06 7f 7f 7f 7f 7f 7f 00";

    private interface Maker {
        Sections of(int many);
    }

    public static void main(String[] args) {
        types();
        imports();
        functions();
        globals();
        exports();
        elements();
        data();
        locals();
        blocks();
        labels();
        names();
        customNames();
        ownTable();
        ownMemory();
        importedTable();
        importedMemory();
        Check.finish("LimitsTest");
    }

    private static void limit(String what, int most, Maker maker) {
        for (int many : new int[] {most - 1, most, most + 1, most + 2, FAR}) {
            // A start of function 127 is not valid; a byte behind all sections, or a custom one too long, is malformed.
            Sections module = maker.of(many);
            Sections invalid = module.with(8, "7f");
            boolean fits = many <= most;
            String these = many + " " + what;
            reads(these, module, fits ? 0 : 3);
            reads(these + ", and not valid", invalid, fits ? 2 : 3);
            reads(these + ", and malformed behind it", module.behind("0b"), 1);
            reads(these + ", and malformed before it", module.before("00 01 05"), 1);
            reads(these + ", not valid and malformed", invalid.behind("0b"), 1);
        }
    }

    private static void reads(String what, Sections module, int due) {
        Wasm.reads(what, module.bytes(), due);
    }

    private static void types() {
        limit("types", 40, Sections::types);
        limit("types of parameters and a result", 40, n -> Sections.none().with(1, Wasm.many(n, "60 02 7e 7f 01 7e")));
        reads("the first type is known", Sections.types(40).with(2, "01 00 00 00 00"), 0);
        reads("the last of 40 types is known", Sections.types(40).with(2, "01 00 00 00 27"), 0);
        reads("the type behind the last of 40", Sections.types(40).with(2, "01 00 00 00 28"), 2);
        reads("the type before the last of 39", Sections.types(39).with(2, "01 00 00 00 26"), 0);
        reads("the type behind the last of 39", Sections.types(39).with(2, "01 00 00 00 27"), 2);
    }

    private static void imports() {
        limit("imported functions", 30, n -> Sections.functions(n, 0));
        limit("imported globals", 30, n -> Sections.globals(n, 0));
        limit("imports of several sorts", 30, n -> Sections.none().with(1, Sections.EMPTY_TYPE).with(2,
                Wasm.unsigned(n), "00 00 02 00 01", Wasm.times(n - 16, "00 00 00 00"),
                Wasm.times(14, "00 00 03 7f 00"), "00 00 01 70 00 01"));
        // Two tables are not valid, but they are imports all the same.
        reads("30 imported tables", Sections.none().with(2, Wasm.many(30, "00 00 01 70 00 01")), 2);
        reads("31 imported tables", Sections.none().with(2, Wasm.many(31, "00 00 01 70 00 01")), 3);
        reads("30 imported memories", Sections.none().with(2, Wasm.many(30, "00 00 02 00 01")), 2);
        reads("31 imported memories", Sections.none().with(2, Wasm.many(31, "00 00 02 00 01")), 3);
    }

    private static void functions() {
        limit("functions", 60, n -> Sections.functions(0, n));
        limit("functions, 1 imported", 60, n -> Sections.functions(1, n - 1));
        limit("functions, 30 imported", 60, n -> Sections.functions(30, n - 30));
        limit("functions with locals and blocks", 60, n -> Sections.functions(0, n).with(10,
                Wasm.many(n, Wasm.sized("01 02 7e", "02 40 0b 0b"))));
        reads("the last of 60 functions", Sections.functions(30, 30).with(8, "3b"), 0);
        reads("the function behind the last of 60", Sections.functions(30, 30).with(8, "3c"), 2);
    }

    private static void globals() {
        limit("globals", 30, n -> Sections.globals(0, n));
        limit("globals, 1 imported", 30, n -> Sections.globals(1, n - 1));
        limit("globals, 29 imported", 30, n -> Sections.globals(29, n - 29));
        reads("30 globals, all imported", Sections.globals(30, 0), 0);
        reads("31 globals, 30 imported", Sections.globals(30, 1), 3);
        reads("the last of 30 globals", Sections.globals(10, 20).with(7, "01 00 03 1d"), 0);
        reads("the global behind the last of 30", Sections.globals(10, 20).with(7, "01 00 03 1e"), 2);
    }

    private static void exports() {
        limit("exports", 40, Sections::exports);
        reads("40 exports of nothing", Sections.none().with(7, Wasm.many(40, "00 00 00")), 2);
        reads("41 exports of nothing", Sections.none().with(7, Wasm.many(41, "00 00 00")), 3);
    }

    private static void elements() {
        limit("elements", 20, Sections::elements);
        limit("elements of functions", 20, n -> Sections.functions(0, 1).with(4, "01 70 00 01").with(9,
                Wasm.many(n, "00 41 00 0b 02 00 00")));
        reads("the last of 20 elements is wrong",
                Sections.elements(0).with(9, "14", Wasm.times(19, "00 41 00 0b 00"), "00 42 00 0b 00"), 2);
        reads("an element of 300 functions",
                Sections.functions(0, 1).with(4, "01 70 00 01").with(9, "01 00 41 00 0b", Wasm.many(300, "00")), 0);
    }

    private static void data() {
        limit("data", 20, Sections::data);
        limit("data of bytes", 20, n -> Sections.data(0).with(11, Wasm.many(n, "00 41 00 0b 02 ff ff")));
        reads("the last of 20 data is wrong",
                Sections.data(0).with(11, "14", Wasm.times(19, "00 41 00 0b 00"), "00 42 00 0b 00"), 2);
        reads("data of 3000 bytes", Sections.data(0).with(11, "01 00 41 00 0b", Wasm.many(3000, "00")), 0);
    }

    private static Sections locals(int many) {
        return Sections.body("00 00", Wasm.bytes("01", Wasm.unsigned(many), "7f"), "0b");
    }

    private static void locals() {
        limit("locals at once", 30, LimitsTest::locals);
        limit("locals one by one", 30, n -> Sections.body("00 00", Wasm.many(n, "01 7e"), "0b"));
        limit("locals in two groups", 30, n -> Sections.body("00 00",
                Wasm.bytes("02 0f 7f", Wasm.unsigned(n - 15), "7e"), "0b"));
        limit("locals, 1 of them a parameter", 30, n -> Sections.body("01 7e 00",
                Wasm.bytes("01", Wasm.unsigned(n - 1), "7e"), "0b"));
        limit("locals, 6 of them parameters", 30, n -> Sections.body(SIX,
                Wasm.bytes("01", Wasm.unsigned(n - 6), "7e"), "0b"));
        limit("locals of the last function", 30, n -> Sections.functions(1, 2).with(10,
                "02", Sections.EMPTY_BODY, Wasm.sized("01", Wasm.unsigned(n), "7f 0b")));
        reads("30 locals in each of two", Sections.functions(0, 2).with(10, "02 04 01 1e 7f 0b 04 01 1e 7f 0b"), 0);
        reads("many locals, then none", Sections.body("00 00", "02 ff 7f 7f 00 7e", "0b"), 3);
        reads("30 locals and none of another type", Sections.body("00 00", "02 1e 7f 00 7e", "0b"), 0);
        reads("30 locals and one of another type", Sections.body("00 00", "02 1e 7f 01 7e", "0b"), 3);
        reads("as many locals as can be", Sections.body("00 00", "01 ff ff ff ff 0f 7f", "0b"), 3);
        reads("31 locals and a wrong body", Sections.body("00 00", "01 1f 7f", "6a 0b"), 3);
        reads("30 locals of no known type", locals(30).with(3, "01 05"), 2);
        reads("31 locals of no known type", locals(31).with(3, "01 05"), 3);
        reads("the last of 30 locals", Sections.body("00 00", "01 1e 7f", "20 1d 1a 0b"), 0);
        reads("the local behind the last of 30", Sections.body("00 00", "01 1e 7f", "20 1e 1a 0b"), 2);
    }

    private static Sections nested(int depth, String opener, Object inside) {
        return Sections.body("00 00", "00",
                Wasm.bytes(Wasm.times(depth, opener), inside, Wasm.times(depth + 1, "0b")));
    }

    private static void blocks() {
        for (String opener : new String[] {"02 40", "03 40", "41 00 04 40", "41 00 04 40 05"}) {
            limit("blocks in one another by " + opener, 30, n -> nested(n, opener, ""));
        }
        limit("blocks that are never reached", 30, n -> Sections.body("00 00", "00",
                Wasm.bytes("00", Wasm.times(n, "02 40"), Wasm.times(n + 1, "0b"))));
        limit("blocks of several sorts", 30, n -> Sections.body("00 00", "00", Wasm.bytes(
                "02 40 03 40 41 00 04 40", Wasm.times(n - 3, "02 40"), Wasm.times(n + 1, "0b"))));
        limit("blocks in the second function", 30, n -> Sections.functions(0, 2).with(10, "02",
                Sections.EMPTY_BODY, Wasm.sized("00", Wasm.times(n, "02 40"), Wasm.times(n + 1, "0b"))));
        reads("30 blocks, behind 30 others", Sections.body("00 00", "00", Wasm.bytes(
                Wasm.times(30, "02 40"), Wasm.times(30, "0b"), Wasm.times(30, "02 40"), Wasm.times(31, "0b"))), 0);
        reads("31 blocks, behind 30 others", Sections.body("00 00", "00", Wasm.bytes(
                Wasm.times(30, "02 40"), Wasm.times(30, "0b"), Wasm.times(31, "02 40"), Wasm.times(32, "0b"))), 3);
        reads("900 blocks in one another", nested(900, "02 40", ""), 3);
        reads("100 blocks behind one another",
                Sections.body("00 00", "00", Wasm.bytes(Wasm.times(100, "02 40 0b"), "0b")), 0);
        reads("two in the 29th block", nested(29, "02 40", "02 40 0b 02 40 0b"), 0);
        reads("one in the 30th block", nested(30, "02 40", "02 40 0b"), 3);
        // The function itself is no block, but it has a label.
        reads("a branch out of 30 blocks", nested(30, "02 40", "0c 1e"), 0);
        reads("a branch beyond", nested(30, "02 40", "0c 1f"), 2);
    }

    private static void labels() {
        limit("labels of a br_table", 20,
                n -> Sections.body("00 00", "00", Wasm.bytes("41 00 0e", Wasm.many(n, "00"), "00 0b")));
        limit("labels that are never reached", 20,
                n -> Sections.body("00 00", "00", Wasm.bytes("00 0e", Wasm.many(n, "00"), "00 0b")));
        reads("no label but the last", Sections.body("00 00", "00", "41 00 0e 00 00 0b"), 0);
        reads("20 labels, twice", Sections.body("00 00", "00", Wasm.bytes(
                Wasm.times(2, Wasm.bytes("41 00 0e", Wasm.many(20, "00"), "00")), "0b")), 0);
        reads("the 20th of 20 labels", Sections.body("00 00", "00",
                Wasm.bytes("41 00 0e 14", Wasm.times(19, "00"), "01 00 0b")), 2);
        reads("the one behind 20 labels", Sections.body("00 00", "00",
                Wasm.bytes("41 00 0e", Wasm.many(20, "00"), "01 0b")), 2);
        reads("the 21st of 21 labels", Sections.body("00 00", "00",
                Wasm.bytes("41 00 0e 15", Wasm.times(20, "00"), "01 00 0b")), 3);
    }

    private static void names() {
        limit("bytes of an import's first name", 20, n -> Sections.none().with(2,
                "01", Wasm.many(n, "61"), "00 03 7f 00"));
        limit("bytes of an import's second name", 20, n -> Sections.none().with(2,
                "01 00", Wasm.many(n, "61"), "03 7f 00"));
        limit("bytes of both names of an import", 20, n -> Sections.none().with(2,
                "01", Wasm.many(n, "ff"), Wasm.many(n, "ff"), "03 7f 00"));
        limit("bytes of an export's name", 20, n -> Sections.none().with(6, "01", Sections.I32_GLOBAL).with(7,
                "01", Wasm.many(n, "61"), "03 00"));
        limit("bytes of the second export's name", 20, n -> Sections.none().with(6, "01", Sections.I32_GLOBAL).with(7,
                "02 00 03 00", Wasm.many(n, "ff"), "03 00"));
        limit("bytes of the name of the last of 39 exports", 20, n -> lastName(39, n));
        limit("bytes of the name of the last of 40 exports", 20, n -> lastName(40, n));
        for (int length : new int[] {0, 20, 21, FAR}) {
            reads("the last of 41 exports has a name of " + length, lastName(41, length), 3);
        }
        reads("empty names", Sections.none().with(2, "01 00 00 03 7f 00").with(7, "01 00 03 00"), 0);
    }

    /** So many exports, of which the last has a name of so many bytes. */
    private static Sections lastName(int exports, int bytes) {
        byte[] parts = Wasm.unsigned(exports);
        for (int e = 1; e < exports; e++) {
            parts = Wasm.bytes(parts, "01", e, "03 00");
        }
        return Sections.globals(0, 1).with(7, parts, Wasm.many(bytes, "61"), "03 00");
    }

    /** The names of custom sections are of any length, as far as THE ROW is long enough. */
    private static void customNames() {
        for (int length : new int[] {0, 1, 19, 20, 21, 127, 128, FAR, 3986, 3987}) {
            byte[] custom = Wasm.section(0, Wasm.many(length, "61"));
            reads("a custom name of " + length + " bytes", Sections.none().before(custom), 0);
            if (length <= FAR) {
                Sections types = Sections.types(40).before(custom).behind(custom);
                reads("two custom names of " + length + " bytes", types, 0);
                reads("the same, not valid", types.with(8, "7f"), 2);
                reads("the same, too large", types.with(5, "01 00 03"), 3);
            }
        }
        Check.same("the longest fills the row", Wasm.module(Wasm.section(0, Wasm.many(3987, "61"))).length, 4000);
    }

    private static void ownTable() {
        limit("of a table at first", 200, n -> Sections.none().with(4, "01 70 00", Wasm.unsigned(n)));
        limit("of a table at first that may grow", 200, n -> Sections.none().with(4,
                "01 70 01", Wasm.unsigned(n), "ff ff ff ff 0f"));
        limit("of a table at first and at most", 200, n -> Sections.none().with(4,
                "01 70 01", Wasm.unsigned(n), Wasm.unsigned(n)));
        reads("a table of 0", Sections.none().with(4, "01 70 00 00"), 0);
        reads("a table of 0 at most 0", Sections.none().with(4, "01 70 01 00 00"), 0);
        reads("a table of the highest size", Sections.none().with(4, "01 70 00 ff ff ff ff 0f"), 3);
        reads("a table of 200 to 199", Sections.none().with(4, "01 70 01 c8 01 c7 01"), 2);
        reads("a table of 201 to 1", Sections.none().with(4, "01 70 01 c9 01 01"), 3);
        reads("two tables of 200", Sections.none().with(4, "02 70 00 c8 01 70 00 c8 01"), 2);
        reads("two tables, the first of 201", Sections.none().with(4, "02 70 00 c9 01 70 00 01"), 3);
        reads("two tables, the second of 201", Sections.none().with(4, "02 70 00 01 70 00 c9 01"), 3);
    }

    private static void ownMemory() {
        limit("pages at first", 2, n -> Sections.none().with(5, "01 00", Wasm.unsigned(n)));
        limit("pages at first that may grow", 2, n -> Sections.none().with(5, "01 01", Wasm.unsigned(n), "80 80 04"));
        limit("pages at first and at most", 2, n -> Sections.none().with(5,
                "01 01", Wasm.unsigned(n), Wasm.unsigned(n)));
        reads("a memory of 0 pages", Sections.none().with(5, "01 00 00"), 0);
        reads("a memory of 2 to 1 pages", Sections.none().with(5, "01 01 02 01"), 2);
        reads("a memory of 3 to 1 pages", Sections.none().with(5, "01 01 03 01"), 3);
        reads("a memory of 2 to 65537 pages", Sections.none().with(5, "01 01 02 81 80 04"), 2);
        reads("a memory of 3 to 65537 pages", Sections.none().with(5, "01 01 03 81 80 04"), 3);
        reads("a memory of 65537 pages", Sections.none().with(5, "01 00 81 80 04"), 3);
        reads("a memory of the highest size", Sections.none().with(5, "01 00 ff ff ff ff 0f"), 3);
        reads("two memories of 2 pages", Sections.none().with(5, "02 00 02 00 02"), 2);
        reads("two memories, the first of 3 pages", Sections.none().with(5, "02 00 03 00 01"), 3);
        reads("two memories, the second of 3 pages", Sections.none().with(5, "02 00 01 00 03"), 3);
    }

    private static Sections imported(Object... what) {
        return Sections.none().with(2, "01 00 00", Wasm.bytes(what));
    }

    private static void importedTable() {
        for (long size : new long[] {0, 199, 200, 201, 202, 0x7fffffffL, 0x80000000L, 0xfffffffeL, 0xffffffffL}) {
            reads("an imported table of " + size, imported("01 70 00", Wasm.unsigned(size)), 0);
            reads("an imported table of " + size + " and no more",
                    imported("01 70 01", Wasm.unsigned(size), Wasm.unsigned(size)), 0);
            reads("an imported table up to " + size, imported("01 70 01 00", Wasm.unsigned(size)), 0);
            if (size > 0) {
                reads("an imported table of " + size + " and less",
                        imported("01 70 01", Wasm.unsigned(size), Wasm.unsigned(size - 1)), 2);
            }
        }
        reads("an imported table of 2 to the 32", imported("01 70 00", Wasm.unsigned(0x100000000L)), 1);
        reads("an imported table of 201 and an own of 200", imported("01 70 00 c9 01").with(4, "01 70 00 c8 01"), 2);
        reads("an imported table and an own of 201", imported("01 70 00 00").with(4, "01 70 00 c9 01"), 3);
    }

    private static void importedMemory() {
        for (long size : new long[] {0, 1, 2, 3, 4, 65535, 65536, 65537, 65538, 0x7fffffffL, 0xffffffffL}) {
            int due = size <= 65536 ? 0 : 2;
            reads("an imported memory of " + size, imported("02 00", Wasm.unsigned(size)), due);
            reads("an imported memory of " + size + " and no more",
                    imported("02 01", Wasm.unsigned(size), Wasm.unsigned(size)), due);
            reads("an imported memory up to " + size, imported("02 01 00", Wasm.unsigned(size)), due);
            if (size > 0) {
                reads("an imported memory of " + size + " and less",
                        imported("02 01", Wasm.unsigned(size), Wasm.unsigned(size - 1)), 2);
            }
        }
        reads("an imported memory of 2 to the 32", imported("02 00", Wasm.unsigned(0x100000000L)), 1);
        reads("an imported memory of 3 and an own of 2", imported("02 00 03").with(5, "01 00 02"), 2);
        reads("an imported memory and an own of 3", imported("02 00 00").with(5, "01 00 03"), 3);
    }
}
