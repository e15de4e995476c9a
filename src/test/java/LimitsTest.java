/** Promise 4, the fault 3: each limit, just reached and just passed. */
public final class LimitsTest {
    private static final byte[] TYPE = Wasm.section(1, "01 60 00 00");

    public static void main(String[] args) {
        typesAndImports();
        functions();
        globals();
        exports();
        segments();
        locals();
        blocks();
        labels();
        names();
        ownSizes();
        tooLargeBeforeInvalid();
        Check.finish("LimitsTest");
    }

    private static void module(String what, int due, Object... sections) {
        Wasm.reads(what, Wasm.module(sections), due);
    }

    private static void typesAndImports() {
        module("40 types", 0, Wasm.section(1, Wasm.many(40, "60 00 00")));
        module("41 types", 3, Wasm.section(1, Wasm.many(41, "60 00 00")));
        module("the last of 40 types is known", 0,
                Wasm.section(1, Wasm.many(40, "60 00 00")), Wasm.section(2, "01 00 00 00 27"));
        module("the type behind the last of 40", 2,
                Wasm.section(1, Wasm.many(40, "60 00 00")), Wasm.section(2, "01 00 00 00 28"));
        module("30 imports", 0, TYPE, Wasm.section(2, Wasm.many(30, "00 00 00 00")));
        module("31 imports", 3, TYPE, Wasm.section(2, Wasm.many(31, "00 00 00 00")));
        module("31 imports of several sorts", 3, TYPE, Wasm.section(2, "1f",
                Wasm.times(15, "00 00 00 00"), Wasm.times(14, "00 00 03 7f 00"), "00 00 02 00 01 00 00 01 70 00 01"));
        module("30 imports of several sorts", 0, TYPE, Wasm.section(2, "1e",
                Wasm.times(14, "00 00 00 00"), Wasm.times(14, "00 00 03 7f 00"), "00 00 02 00 01 00 00 01 70 00 01"));
    }

    private static byte[] functionsOf(int imported, int own) {
        return Wasm.module(TYPE, Wasm.section(2, Wasm.many(imported, "00 00 00 00")),
                Wasm.section(3, Wasm.many(own, "00")), Wasm.section(10, Wasm.many(own, "02 00 0b")));
    }

    private static void functions() {
        Wasm.reads("60 functions", functionsOf(0, 60), 0);
        Wasm.reads("61 functions", functionsOf(0, 61), 3);
        Wasm.reads("60 functions, 30 imported", functionsOf(30, 30), 0);
        Wasm.reads("61 functions, 30 imported", functionsOf(30, 31), 3);
        Wasm.reads("61 functions, 1 imported", functionsOf(1, 60), 3);
        Wasm.reads("400 functions", functionsOf(0, 400), 3);
        WasmReader reader = Wasm.reader(functionsOf(30, 30));
        Check.same("the last of 60 functions", reader.function(59, 3), 1);
        Check.same("the first of its own", reader.function(30, 3), 1);
        Check.same("the last that is imported", reader.function(29, 3), 0);
    }

    private static byte[] globalsOf(int imported, int own) {
        return Wasm.module(Wasm.section(2, Wasm.many(imported, "00 00 03 7f 00")),
                Wasm.section(6, Wasm.many(own, "7f 00 41 05 0b")));
    }

    private static void globals() {
        Wasm.reads("30 globals", globalsOf(0, 30), 0);
        Wasm.reads("31 globals", globalsOf(0, 31), 3);
        Wasm.reads("30 globals, 10 imported", globalsOf(10, 20), 0);
        Wasm.reads("31 globals, 10 imported", globalsOf(10, 21), 3);
        Wasm.reads("30 globals, all imported", globalsOf(30, 0), 0);
        Wasm.reads("31 globals, 30 imported", globalsOf(30, 1), 3);
        Check.same("the last of 30 globals", Wasm.reader(globalsOf(10, 20)).initial(29), 5);
    }

    private static byte[] exportsOf(int many) {
        byte[] parts = Wasm.unsigned(many);
        for (int n = 0; n < many; n++) {
            parts = Wasm.bytes(parts, "02 61", n, "03 00");
        }
        return Wasm.module(Wasm.section(6, "01 7f 00 41 00 0b"), Wasm.section(7, parts));
    }

    private static void exports() {
        Wasm.reads("40 exports", exportsOf(40), 0);
        Wasm.reads("41 exports", exportsOf(41), 3);
        Check.same("the last of 40 exports", Wasm.reader(exportsOf(40)).export(39, 11), 39);
    }

    private static void segments() {
        byte[] table = Wasm.section(4, "01 70 00 01");
        byte[] memory = Wasm.section(5, "01 00 01");
        module("20 elements", 0, table, Wasm.section(9, Wasm.many(20, "00 41 00 0b 00")));
        module("21 elements", 3, table, Wasm.section(9, Wasm.many(21, "00 41 00 0b 00")));
        module("20 data", 0, memory, Wasm.section(11, Wasm.many(20, "00 41 00 0b 00")));
        module("21 data", 3, memory, Wasm.section(11, Wasm.many(21, "00 41 00 0b 00")));
        module("an element of 300 functions", 0, TYPE, Wasm.section(3, "01 00"), table,
                Wasm.section(9, "01 00 41 00 0b", Wasm.many(300, "00")), Wasm.section(10, "01 02 00 0b"));
        module("data of 3000 bytes", 0, memory, Wasm.section(11, "01 00 41 00 0b", Wasm.many(3000, "00")));
    }

    private static void locals() {
        Wasm.reads("30 locals at once", Wasm.body("00 00", "01 1e 7f", "0b"), 0);
        Wasm.reads("31 locals at once", Wasm.body("00 00", "01 1f 7f", "0b"), 3);
        Wasm.reads("30 locals in groups", Wasm.body("00 00", "03 0a 7f 0a 7e 0a 7f", "0b"), 0);
        Wasm.reads("31 locals in groups", Wasm.body("00 00", "03 0a 7f 0a 7e 0b 7f", "0b"), 3);
        Wasm.reads("6 parameters and 24 locals", Wasm.body("06 7f 7f 7f 7f 7f 7f 00", "01 18 7e", "0b"), 0);
        Wasm.reads("6 parameters and 25 locals", Wasm.body("06 7f 7f 7f 7f 7f 7f 00", "01 19 7e", "0b"), 3);
        Wasm.reads("many locals, then none", Wasm.body("00 00", "02 ff 7f 7f 00 7e", "0b"), 3);
        byte[] unknownType = Wasm.section(3, "01 05");
        module("30 locals of a function of no known type", 2,
                TYPE, unknownType, Wasm.section(10, "01 04 01 1e 7f 0b"));
        module("31 locals of a function of no known type", 3,
                TYPE, unknownType, Wasm.section(10, "01 04 01 1f 7f 0b"));
    }

    private static byte[] nested(int depth, String opener) {
        return Wasm.body(Wasm.bytes(Wasm.times(depth, opener), Wasm.times(depth + 1, "0b")));
    }

    private static void blocks() {
        String[] openers = {"02 40", "03 40", "41 00 04 40", "41 00 04 40 05"};
        for (String opener : openers) {
            Wasm.reads("30 blocks in one another", nested(30, opener), 0);
            Wasm.reads("31 blocks in one another", nested(31, opener), 3);
        }
        Wasm.reads("900 blocks in one another", nested(900, "02 40"), 3);
        Wasm.reads("100 blocks behind one another", Wasm.body(Wasm.bytes(Wasm.times(100, "02 40 0b"), "0b")), 0);
        Wasm.reads("31 blocks that are never reached",
                Wasm.body(Wasm.bytes("00", Wasm.times(31, "02 40"), Wasm.times(32, "0b"))), 3);
        Wasm.reads("a branch out of 30 blocks",
                Wasm.body(Wasm.bytes(Wasm.times(30, "02 40"), "0c 1e", Wasm.times(31, "0b"))), 0);
        Wasm.reads("a branch beyond",
                Wasm.body(Wasm.bytes(Wasm.times(30, "02 40"), "0c 1f", Wasm.times(31, "0b"))), 2);
    }

    private static void labels() {
        Wasm.reads("no labels but the last", Wasm.body("41 00 0e 00 00 0b"), 0);
        Wasm.reads("20 labels", Wasm.body(Wasm.bytes("41 00 0e", Wasm.many(20, "00"), "00 0b")), 0);
        Wasm.reads("21 labels", Wasm.body(Wasm.bytes("41 00 0e", Wasm.many(21, "00"), "00 0b")), 3);
        Wasm.reads("the 20th of 20 labels", Wasm.body(Wasm.bytes("41 00 0e 14", Wasm.times(19, "00"), "01 00 0b")), 2);
        Wasm.reads("the one behind 20 labels", Wasm.body(Wasm.bytes("41 00 0e", Wasm.many(20, "00"), "01 0b")), 2);
    }

    private static void names() {
        byte[] global = Wasm.section(6, "01 7f 00 41 00 0b");
        for (int length = 19; length <= 22; length++) {
            int due = length > 20 ? 3 : 0;
            byte[] name = Wasm.many(length, "61");
            module("an import's first name", due, Wasm.section(2, "01", name, "00 03 7f 00"));
            module("an import's second name", due, Wasm.section(2, "01 00", name, "03 7f 00"));
            module("an export's name", due, global, Wasm.section(7, "01", name, "03 00"));
            module("a custom section's name", 0, Wasm.section(0, name));
        }
    }

    private static void ownSizes() {
        module("a table of 200", 0, Wasm.section(4, "01 70 00 c8 01"));
        module("a table of 201", 3, Wasm.section(4, "01 70 00 c9 01"));
        module("a table of 200 that may grow", 0, Wasm.section(4, "01 70 01 c8 01 ff ff ff ff 0f"));
        module("a table of the highest size", 3, Wasm.section(4, "01 70 00 ff ff ff ff 0f"));
        module("an imported table of 201", 0, Wasm.section(2, "01 00 00 01 70 00 c9 01"));
        module("an imported table of the highest size", 0, Wasm.section(2, "01 00 00 01 70 00 ff ff ff ff 0f"));
        module("a memory of 2 pages", 0, Wasm.section(5, "01 00 02"));
        module("a memory of 3 pages", 3, Wasm.section(5, "01 00 03"));
        module("a memory of 2 pages that may grow", 0, Wasm.section(5, "01 01 02 80 80 04"));
        module("an imported memory of 3 pages", 0, Wasm.section(2, "01 00 00 02 00 03"));
        module("an imported memory of 65536 pages", 0, Wasm.section(2, "01 00 00 02 00 80 80 04"));
    }

    private static void tooLargeBeforeInvalid() {
        module("a memory of 3 to 1 pages", 3, Wasm.section(5, "01 01 03 01"));
        module("a memory of 65537 pages", 3, Wasm.section(5, "01 00 81 80 04"));
        module("a table of 201 to 1", 3, Wasm.section(4, "01 70 01 c9 01 01"));
        module("two memories, one of 3 pages first", 3, Wasm.section(5, "02 00 03 00 01"));
        module("two memories, one of 3 pages last", 3, Wasm.section(5, "02 00 01 00 03"));
        module("two tables, one of 201 first", 3, Wasm.section(4, "02 70 00 c9 01 70 00 01"));
        Wasm.reads("31 locals and a wrong body", Wasm.body("00 00", "01 1f 7f", "6a 0b"), 3);
        module("41 exports of nothing", 3, Wasm.section(7, Wasm.many(41, "00 00 00")));
        module("40 exports of nothing", 2, Wasm.section(7, Wasm.many(40, "00 00 00")));
        module("a start that is not there and 21 bytes of a name", 3,
                Wasm.section(2, "01 00", Wasm.many(21, "61"), "03 7f 00"), Wasm.section(8, "05"));
    }
}
