/** Promise 4, the fault 2: what of a module, but for its bodies, is not valid. */
public final class ValidityTest {
    private static final byte[] TYPES = Wasm.section(1, "04 60 00 00 60 01 7f 00 60 00 01 7f 60 01 7e 01 7e");
    private static final byte[] FUNCTION = Wasm.section(3, "01 00");
    private static final byte[] CODE = Wasm.section(10, "01 02 00 0b");
    private static final byte[] TABLE = Wasm.section(4, "01 70 00 01");
    private static final byte[] MEMORY = Wasm.section(5, "01 00 01");

    public static void main(String[] args) {
        types();
        sizes();
        globals();
        exports();
        start();
        elements();
        data();
        Check.finish("ValidityTest");
    }

    private static void module(String what, int due, Object... sections) {
        Wasm.reads(what, Wasm.module(sections), due);
    }

    private static void types() {
        module("a function of a type behind the last", 2, TYPES, Wasm.section(3, "01 04"), CODE);
        module("a function of a type that is not there", 2, TYPES, Wasm.section(3, "01 ff ff ff ff 0f"), CODE);
        module("a function without types", 2, FUNCTION, CODE);
        module("the second function of a type that is not there", 2,
                TYPES, Wasm.section(3, "02 00 04"), Wasm.section(10, "02 02 00 0b 02 00 0b"));
        module("the last of three imports of a type that is not there", 2,
                TYPES, Wasm.section(2, "03 00 00 00 00 00 00 00 03 00 00 00 04"));
        module("a function of a type that is not there behind imports", 2,
                TYPES, Wasm.section(2, "01 00 00 00 00"), Wasm.section(3, "01 04"), CODE);
        module("an import of the last type", 0, TYPES, Wasm.section(2, "01 00 00 00 03"));
        for (int type = 4; type <= 41; type++) {
            module("an import of a type that is not there", 2, TYPES, Wasm.section(2, "01 00 00 00", type));
        }
        module("imports of one name", 0, TYPES, Wasm.section(2, "02 01 61 01 62 00 00 01 61 01 62 00 00"));
    }

    private static void sizes() {
        module("a table of 5 to 5", 0, Wasm.section(4, "01 70 01 05 05"));
        module("a table of 5 to 4", 2, Wasm.section(4, "01 70 01 05 04"));
        module("an imported table of 5 to 4", 2, Wasm.section(2, "01 00 00 01 70 01 05 04"));
        module("an imported table up to the highest", 0,
                Wasm.section(2, "01 00 00 01 70 01 ff ff ff ff 0f ff ff ff ff 0f"));
        module("a memory of 2 to 2", 0, Wasm.section(5, "01 01 02 02"));
        module("a memory of 2 to 1", 2, Wasm.section(5, "01 01 02 01"));
        module("a memory up to 65536", 0, Wasm.section(5, "01 01 00 80 80 04"));
        module("a memory up to 65537", 2, Wasm.section(5, "01 01 00 81 80 04"));
        module("an imported memory of 65537", 2, Wasm.section(2, "01 00 00 02 00 81 80 04"));
        module("an imported memory of the highest number", 2, Wasm.section(2, "01 00 00 02 00 ff ff ff ff 0f"));
        module("an imported memory up to 65537", 2, Wasm.section(2, "01 00 00 02 01 00 81 80 04"));
        module("an imported memory of 7 to 6", 2, Wasm.section(2, "01 00 00 02 01 07 06"));
        module("two tables", 2, Wasm.section(4, "02 70 00 01 70 00 01"));
        module("two imported tables", 2, Wasm.section(2, "02 00 00 01 70 00 01 00 00 01 70 00 01"));
        module("an imported table and an own", 2, Wasm.section(2, "01 00 00 01 70 00 01"), TABLE);
        module("two memories", 2, Wasm.section(5, "02 00 01 00 01"));
        module("two imported memories", 2, Wasm.section(2, "02 00 00 02 00 01 00 00 02 00 01"));
        module("an imported memory and an own", 2, Wasm.section(2, "01 00 00 02 00 01"), MEMORY);
        module("a table and a memory", 0, TABLE, MEMORY);
    }

    private static void globals() {
        // Global 0 is an i32, 1 an i64, 2 an i32 that may be changed.
        byte[] imports = Wasm.section(2, "03 00 00 03 7f 00 00 00 03 7e 00 00 00 03 7f 01");
        module("an i32 of an i64", 2, Wasm.section(6, "01 7f 00 42 00 0b"));
        module("an i64 of an i32", 2, Wasm.section(6, "01 7e 00 41 00 0b"));
        module("of an imported i32", 0, imports, Wasm.section(6, "01 7f 00 23 00 0b"));
        module("of an imported i32, to be changed", 0, imports, Wasm.section(6, "01 7f 01 23 00 0b"));
        module("of an imported i64", 0, imports, Wasm.section(6, "01 7e 00 23 01 0b"));
        module("an i64 of an imported i32", 2, imports, Wasm.section(6, "01 7e 00 23 00 0b"));
        module("an i32 of an imported i64", 2, imports, Wasm.section(6, "01 7f 00 23 01 0b"));
        module("of one that may be changed", 2, imports, Wasm.section(6, "01 7f 00 23 02 0b"));
        module("of itself", 2, imports, Wasm.section(6, "01 7f 00 23 03 0b"));
        module("of an own one before it", 2, imports, Wasm.section(6, "02 7f 00 41 00 0b 7f 00 23 03 0b"));
        module("of an own one behind it", 2, imports, Wasm.section(6, "02 7f 00 23 04 0b 7f 00 41 00 0b"));
        module("of one that is not there", 2, imports, Wasm.section(6, "01 7f 00 23 ff ff ff ff 0f 0b"));
        module("without imports", 2, Wasm.section(6, "02 7f 00 41 00 0b 7f 00 23 00 0b"));
        module("the second is wrong", 2, Wasm.section(6, "02 7f 00 41 00 0b 7f 00 42 00 0b"));
    }

    private static void exports() {
        Object[] all = {TYPES, FUNCTION, TABLE, MEMORY, Wasm.section(6, "01 7f 01 41 00 0b")};
        for (int sort = 0; sort < 4; sort++) {
            module("an export of each sort", 0, Wasm.bytes(all), Wasm.section(7, "01 01 61", sort, "00"), CODE);
            module("one that is not there", 2, Wasm.bytes(all), Wasm.section(7, "01 01 61", sort, "01"), CODE);
            module("one far beyond", 2,
                    Wasm.bytes(all), Wasm.section(7, "01 01 61", sort, "ff ff ff ff 0f"), CODE);
            module("of an empty module", 2, Wasm.section(7, "01 01 61", sort, "00"));
        }
        module("an export of what is imported", 0, TYPES,
                Wasm.section(2, "04 00 00 00 00 00 00 01 70 00 01 00 00 02 00 01 00 00 03 7f 01"),
                Wasm.section(7, "04 01 61 00 00 01 62 01 00 01 63 02 00 01 64 03 00"));
        module("two names alike", 2, MEMORY, Wasm.section(7, "02 01 61 02 00 01 61 02 00"));
        module("two empty names", 2, MEMORY, Wasm.section(7, "02 00 02 00 00 02 00"));
        module("the first and the last alike", 2, MEMORY, Wasm.section(7, "03 01 61 02 00 01 62 02 00 01 61 02 00"));
        module("two sorts of one name", 2, TABLE, MEMORY, Wasm.section(7, "02 01 61 01 00 01 61 02 00"));
        module("names of which one begins the other", 0, MEMORY, Wasm.section(7, "02 01 61 02 00 02 61 00 02 00"));
        module("names that differ in their last byte", 0,
                MEMORY, Wasm.section(7, "02", Wasm.many(20, "61"), "02 00 14", Wasm.times(19, "61"), "62 02 00"));
        module("an empty name and another", 0, MEMORY, Wasm.section(7, "02 00 02 00 01 00 02 00"));
    }

    private static void start() {
        module("a start", 0, TYPES, FUNCTION, Wasm.section(8, "00"), CODE);
        module("a start that is imported", 0, TYPES, Wasm.section(2, "01 00 00 00 00"), Wasm.section(8, "00"));
        module("a start that is not there", 2, TYPES, FUNCTION, Wasm.section(8, "01"), CODE);
        module("a start far beyond", 2, TYPES, FUNCTION, Wasm.section(8, "ff ff ff ff 0f"), CODE);
        module("a start with a parameter", 2, TYPES, Wasm.section(3, "01 01"), Wasm.section(8, "00"), CODE);
        module("a start with a result", 2, TYPES, Wasm.section(2, "01 00 00 00 02"), Wasm.section(8, "00"));
        module("a start of an empty module", 2, Wasm.section(8, "00"));
    }

    private static void elements() {
        Object head = Wasm.bytes(TYPES, FUNCTION, TABLE);
        module("an element", 0, head, Wasm.section(9, "01 00 41 00 0b 01 00"), CODE);
        module("beyond the table's size", 0, head, Wasm.section(9, "01 00 41 7f 0b 02 00 00"), CODE);
        module("of another table", 2, head, Wasm.section(9, "01 01 41 00 0b 01 00"), CODE);
        module("without a table", 2, TYPES, FUNCTION, Wasm.section(9, "01 00 41 00 0b 01 00"), CODE);
        module("of an imported table", 0,
                TYPES, Wasm.section(2, "01 00 00 01 70 00 01"), FUNCTION,
                Wasm.section(9, "01 00 41 00 0b 01 00"), CODE);
        module("at an i64", 2, head, Wasm.section(9, "01 00 42 00 0b 01 00"), CODE);
        module("a function that is not there", 2, head, Wasm.section(9, "01 00 41 00 0b 01 01"), CODE);
        module("a function that is not there, first", 2, head, Wasm.section(9, "01 00 41 00 0b 02 01 00"), CODE);
        module("a function far beyond", 2, head, Wasm.section(9, "01 00 41 00 0b 01 ff ff ff ff 0f"), CODE);
        module("the second is wrong", 2, head, Wasm.section(9, "02 00 41 00 0b 00 00 42 00 0b 00"), CODE);
        offsets(9, TABLE);
    }

    private static void data() {
        module("data", 0, MEMORY, Wasm.section(11, "01 00 41 00 0b 01 00"));
        module("beyond the memory's size", 0, MEMORY, Wasm.section(11, "01 00 41 7f 0b 01 00"));
        module("of another memory", 2, MEMORY, Wasm.section(11, "01 01 41 00 0b 01 00"));
        module("of a memory far beyond", 2, MEMORY, Wasm.section(11, "01 ff ff ff ff 0f 41 00 0b 01 00"));
        module("without a memory", 2, Wasm.section(11, "01 00 41 00 0b 00"));
        module("of an imported memory", 0, Wasm.section(2, "01 00 00 02 00 01"), Wasm.section(11, "01 00 41 00 0b 00"));
        module("at an i64", 2, MEMORY, Wasm.section(11, "01 00 42 00 0b 00"));
        module("the second is wrong", 2, MEMORY, Wasm.section(11, "02 00 41 00 0b 00 00 42 00 0b 00"));
        offsets(11, MEMORY);
    }

    /** INITIALS of elements or data that use a global. */
    private static void offsets(int section, byte[] target) {
        // 0: i32, 1: i64, 2: i32 that may be changed, all imported; 3: i32, 4: i32 that may be changed, its own.
        byte[] imports = Wasm.section(2, "03 00 00 03 7f 00 00 00 03 7e 00 00 00 03 7f 01");
        byte[] own = Wasm.section(6, "02 7f 00 41 00 0b 7f 01 41 00 0b");
        int[] due = {0, 2, 2, 0, 2, 2};
        for (int g = 0; g < due.length; g++) {
            module("at global " + g, due[g], imports, target, own, Wasm.section(section, "01 00 23", g, "0b 00"));
        }
        module("at a global far beyond", 2,
                imports, target, own, Wasm.section(section, "01 00 23 ff ff ff ff 0f 0b 00"));
    }
}
