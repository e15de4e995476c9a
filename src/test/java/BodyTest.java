/** Promise 4: which INSTRUCTIONS there are, and when a body of them is valid. */
public final class BodyTest {
    private static final byte[] MEMORY = Wasm.section(5, "01 00 01");
    private static final byte[] TABLE = Wasm.section(4, "01 70 00 01");
    private static final String[] TYPES = {"7f", "7e"};
    private static final String[] CONSTANTS = {"41 00", "42 00"};

    // First and last opcode, how many operands, their type and the result's: 0 is i32, 1 is i64.
    private static final int[][] NUMERIC = {
        {0x45, 0x45, 1, 0, 0}, {0x46, 0x4f, 2, 0, 0}, {0x50, 0x50, 1, 1, 0}, {0x51, 0x5a, 2, 1, 0},
        {0x67, 0x69, 1, 0, 0}, {0x6a, 0x78, 2, 0, 0}, {0x79, 0x7b, 1, 1, 1}, {0x7c, 0x8a, 2, 1, 1},
        {0xa7, 0xa7, 1, 1, 0}, {0xac, 0xad, 1, 0, 1}};

    // Opcode, highest alignment, type.
    private static final int[][] LOADS = {
        {0x28, 2, 0}, {0x29, 3, 1}, {0x2c, 0, 0}, {0x2d, 0, 0}, {0x2e, 1, 0}, {0x2f, 1, 0},
        {0x30, 0, 1}, {0x31, 0, 1}, {0x32, 1, 1}, {0x33, 1, 1}, {0x34, 2, 1}, {0x35, 2, 1}};
    private static final int[][] STORES = {
        {0x36, 2, 0}, {0x37, 3, 1}, {0x3a, 0, 0}, {0x3b, 1, 0}, {0x3c, 0, 1}, {0x3d, 1, 1}, {0x3e, 2, 1}};

    public static void main(String[] args) {
        opcodes();
        numeric();
        loads();
        stores();
        memorySize();
        results();
        blocks();
        ifs();
        branches();
        branchTables();
        returns();
        calls();
        indirectCalls();
        dropAndSelect();
        locals();
        globals();
        unreachable();
        otherBodies();
        Check.finish("BodyTest");
    }

    private static void body(String what, String instructions, int due) {
        Wasm.reads(what, Wasm.body(instructions), due);
    }

    /** A body whose result is an i32 (0) or an i64 (1). */
    private static void gives(String what, int type, String instructions, int due) {
        Wasm.reads(what, Wasm.body("00 01 " + TYPES[type], "00", instructions), due);
    }

    private static void opcodes() {
        boolean[] plain = new boolean[256];
        for (int opcode : new int[] {0x00, 0x01, 0x0b, 0x0f, 0x1a, 0x1b}) {
            plain[opcode] = true;
        }
        for (int[] row : NUMERIC) {
            for (int opcode = row[0]; opcode <= row[1]; opcode++) {
                plain[opcode] = true;
            }
        }
        boolean[] known = plain.clone();
        for (int opcode : new int[] {2, 3, 4, 5, 0xc, 0xd, 0xe, 0x10, 0x11, 0x20, 0x21, 0x22, 0x23, 0x24,
            0x3f, 0x40, 0x41, 0x42}) {
            known[opcode] = true;
        }
        for (int[] row : LOADS) {
            known[row[0]] = true;
        }
        for (int[] row : STORES) {
            known[row[0]] = true;
        }
        for (int opcode = 0; opcode < 256; opcode++) {
            String hex = String.format("%02x", opcode);
            if (plain[opcode] && opcode != 0x0b) {
                Check.same("plain " + hex, Wasm.read(Wasm.body("00 " + hex + " 00 0b")), 0);
            }
            if (!known[opcode]) {
                body("no INSTRUCTION " + hex, "00 " + hex + " 0b", 1);
                body("no INSTRUCTION " + hex, "00 " + hex + " 00 00 00 0b", 1);
            }
        }
    }

    private static void numeric() {
        for (int[] row : NUMERIC) {
            for (int opcode = row[0]; opcode <= row[1]; opcode++) {
                String hex = String.format(" %02x ", opcode);
                for (int result = 0; result < 2; result++) {
                    boolean fits = result == row[4];
                    for (int a = 0; a < 2; a++) {
                        int one = fits && row[2] == 1 && a == row[3] ? 0 : 2;
                        gives("one operand", result, CONSTANTS[a] + hex + "0b", one);
                        for (int b = 0; b < 2; b++) {
                            int two = fits && row[2] == 2 && a == row[3] && b == row[3] ? 0 : 2;
                            gives("two operands", result, CONSTANTS[a] + " " + CONSTANTS[b] + hex + "0b", two);
                        }
                    }
                }
                gives("no operand", row[4], hex + "0b", 2);
            }
        }
    }

    private static void loads() {
        for (int[] row : LOADS) {
            for (int alignment = 0; alignment <= 4; alignment++) {
                for (int result = 0; result < 2; result++) {
                    for (int address = 0; address < 2; address++) {
                        String instructions = String.format("%s %02x %02x 05 0b",
                                CONSTANTS[address], row[0], alignment);
                        int due = alignment <= row[1] && result == row[2] && address == 0 ? 0 : 2;
                        Wasm.reads("a load", Wasm.body("00 01 " + TYPES[result], "00", instructions, MEMORY), due);
                    }
                }
            }
            String one = String.format("41 00 %02x 00 00 1a 0b", row[0]);
            body("a load without a memory", one, 2);
            Wasm.reads("a load from an imported memory", Wasm.module(Wasm.section(1, "01 60 00 00"),
                    Wasm.section(2, "01 00 00 02 00 00"), Wasm.section(3, "01 00"),
                    Wasm.section(10, "01", Wasm.sized("00", one))), 0);
            Wasm.reads("a load aligned by 2 to the 32", Wasm.body("00 00", "00",
                    String.format("41 00 %02x 20 00 1a 0b", row[0]), MEMORY), 2);
            Wasm.reads("a load aligned far beyond", Wasm.body("00 00", "00",
                    String.format("41 00 %02x ff ff ff ff 0f 00 1a 0b", row[0]), MEMORY), 2);
        }
    }

    private static void stores() {
        for (int[] row : STORES) {
            for (int alignment = 0; alignment <= 4; alignment++) {
                for (int value = 0; value < 2; value++) {
                    for (int address = 0; address < 2; address++) {
                        String instructions = String.format("%s %s %02x %02x ac 02 0b",
                                CONSTANTS[address], CONSTANTS[value], row[0], alignment);
                        int due = alignment <= row[1] && value == row[2] && address == 0 ? 0 : 2;
                        Wasm.reads("a store", Wasm.body("00 00", "00", instructions, MEMORY), due);
                    }
                }
            }
            body("a store without a memory", String.format("41 00 %s %02x 00 00 0b", CONSTANTS[row[2]], row[0]), 2);
            Wasm.reads("a store with one operand", Wasm.body("00 00", "00",
                    String.format("%s %02x 00 00 0b", CONSTANTS[row[2]], row[0]), MEMORY), 2);
        }
    }

    private static void memorySize() {
        Wasm.reads("memory.size", Wasm.body("00 01 7f", "00", "3f 00 0b", MEMORY), 0);
        Wasm.reads("memory.size is no i64", Wasm.body("00 01 7e", "00", "3f 00 0b", MEMORY), 2);
        Wasm.reads("memory.grow", Wasm.body("00 01 7f", "00", "41 01 40 00 0b", MEMORY), 0);
        Wasm.reads("memory.grow by an i64", Wasm.body("00 01 7f", "00", "42 01 40 00 0b", MEMORY), 2);
        Wasm.reads("memory.grow by nothing", Wasm.body("00 01 7f", "00", "40 00 0b", MEMORY), 2);
        gives("memory.size without a memory", 0, "3f 00 0b", 2);
        gives("memory.grow without a memory", 0, "41 01 40 00 0b", 2);
        body("memory.size without a memory, never reached", "00 3f 00 1a 0b", 2);
    }

    private static void results() {
        body("nothing", "0b", 0);
        body("nops", "01 01 01 0b", 0);
        body("something where nothing is due", "41 00 0b", 2);
        gives("nothing where an i32 is due", 0, "0b", 2);
        gives("two where one is due", 0, "41 00 41 00 0b", 2);
        for (int due = 0; due < 2; due++) {
            for (int given = 0; given < 2; given++) {
                gives("a result", due, CONSTANTS[given] + " 0b", due == given ? 0 : 2);
            }
        }
    }

    private static void blocks() {
        gives("a block's result", 0, "02 7f 41 00 0b 0b", 0);
        gives("a loop's result", 1, "03 7e 42 00 0b 0b", 0);
        gives("a block's result of another type", 0, "02 7e 42 00 0b 0b", 2);
        gives("a block that gives another type", 0, "02 7f 42 00 0b 0b", 2);
        gives("a block that gives nothing", 0, "02 7f 0b 0b", 2);
        body("a block that gives what it should not", "02 40 41 00 0b 1a 0b", 2);
        body("a block that gives two", "02 7f 41 00 41 00 0b 1a 0b", 2);
        gives("a block may not use what is outside", 0, "41 00 02 7f 0b 0b", 2);
        gives("a block may not add to what is outside", 0, "41 00 02 40 45 0b 0b", 2);
        gives("what is outside is there behind it", 0, "41 00 02 40 0b 0b", 0);
        gives("what is outside and what it gives", 0, "41 00 02 7f 41 01 0b 6a 0b", 0);
    }

    private static void ifs() {
        body("an if", "41 00 04 40 01 0b 0b", 0);
        body("an if of nothing", "04 40 0b 0b", 2);
        body("an if of an i64", "42 00 04 40 0b 0b", 2);
        gives("an if with a result", 0, "41 00 04 7f 41 01 05 41 02 0b 0b", 0);
        gives("an if with a result and no else", 0, "41 00 04 7f 41 01 0b 0b", 2);
        gives("an if with a result and no else, that leaves", 0, "41 00 04 7f 00 0b 0b", 2);
        gives("a wrong then", 0, "41 00 04 7f 42 01 05 41 02 0b 0b", 2);
        gives("a wrong else", 0, "41 00 04 7f 41 01 05 42 02 0b 0b", 2);
        gives("an empty else", 0, "41 00 04 7f 41 01 05 0b 0b", 2);
        gives("an empty then", 0, "41 00 04 7f 05 41 01 0b 0b", 2);
        body("a then that gives what it should not", "41 00 04 40 41 00 05 0b 0b", 2);
        body("an else that gives what it should not", "41 00 04 40 05 41 00 0b 0b", 2);
        gives("an else does not use what then left", 0, "41 00 04 7f 41 01 41 02 05 6a 0b 0b", 2);
        gives("a then that leaves", 0, "41 00 04 7f 00 05 41 02 0b 0b", 0);
        gives("an else that leaves", 0, "41 00 04 7f 41 02 05 00 0b 0b", 0);
        gives("an else is reached though then leaves", 0, "41 00 04 7f 00 05 0b 0b", 2);
        gives("what is behind two that leave", 0, "41 00 04 7f 00 05 00 0b 0b", 0);
        gives("behind it all is reached again", 0, "41 00 04 40 00 05 00 0b 0b", 2);
        gives("an if may not use what is outside", 0, "41 00 41 00 04 40 1a 0b 0b", 2);
    }

    private static void branches() {
        body("br to the function", "0c 00 0b", 0);
        body("br beyond", "0c 01 0b", 2);
        body("br far beyond", "0c ff ff ff ff 0f 0b", 2);
        body("br beyond, never reached", "00 0c 01 0b", 2);
        gives("br with a result", 0, "41 00 0c 00 0b", 0);
        gives("br with another", 0, "42 00 0c 00 0b", 2);
        gives("br without", 0, "0c 00 0b", 2);
        gives("br with more than is due", 0, "42 00 41 00 0c 00 0b", 0);
        gives("br to a block with a result", 1, "02 7e 42 00 0c 00 0b 0b", 0);
        gives("br to the function from a block", 1, "02 40 42 00 0c 01 0b 42 00 0b", 0);
        gives("br from a block without a result", 1, "02 40 0c 01 0b 42 00 0b", 2);
        gives("br to a loop takes nothing", 1, "03 7e 0c 00 0b 0b", 0);
        gives("br_if to a loop takes nothing", 1, "03 7e 42 00 41 00 0d 00 0b 0b", 0);
        gives("br_if to a loop takes nothing along", 1, "03 7e 41 00 0d 00 42 00 0b 0b", 0);
        gives("br to an if", 1, "41 00 04 7e 42 00 0c 00 05 42 01 0c 00 0b 0b", 0);
        body("br_if", "41 00 0d 00 0b", 0);
        body("br_if of nothing", "0d 00 0b", 2);
        body("br_if of an i64", "42 00 0d 00 0b", 2);
        body("br_if beyond", "41 00 0d 01 0b", 2);
        gives("br_if keeps the result", 0, "41 05 41 00 0d 00 0b", 0);
        gives("br_if keeps it only once", 0, "41 05 41 00 0d 00 1a 0b", 2);
        gives("br_if without the result", 0, "41 00 0d 00 41 00 0b", 2);
        gives("br_if with another result", 0, "42 00 41 00 0d 00 0b", 2);
        body("br to the function from 2 blocks", "02 40 03 40 0c 02 0b 0b 0b", 0);
        body("br beyond 2 blocks", "02 40 03 40 0c 03 0b 0b 0b", 2);
        body("a block is no label behind its end", "02 40 0b 0c 01 0b", 2);
    }

    private static void branchTables() {
        body("br_table", "41 00 0e 02 00 00 00 0b", 0);
        body("br_table of nothing", "0e 00 00 0b", 2);
        body("br_table of an i64", "42 00 0e 00 00 0b", 2);
        body("a label beyond", "41 00 0e 02 00 01 00 0b", 2);
        body("the last label beyond", "41 00 0e 01 00 01 0b", 2);
        body("labels of no result", "02 40 03 40 41 00 0e 02 00 01 02 0b 0b 0b", 0);
        gives("labels of one result", 0, "02 7f 41 01 41 00 0e 01 00 01 0b 0b", 0);
        gives("no such result", 0, "02 7f 41 00 0e 01 00 01 0b 0b", 2);
        gives("labels of two types", 0, "02 7e 42 01 41 00 0e 01 00 01 0b 1a 41 00 0b", 2);
        gives("a label with a result and one without", 0, "02 40 41 01 41 00 0e 01 00 01 0b 41 00 0b", 2);
        gives("a loop's label and one with a result", 0, "03 7f 41 01 41 00 0e 01 00 01 0b 0b", 2);
        gives("labels of two types, never reached", 0, "02 7e 00 0e 01 00 01 0b 1a 41 00 0b", 2);
        gives("what is behind br_table is never reached", 0, "41 01 41 00 0e 00 00 0b", 0);
    }

    private static void returns() {
        body("return", "0f 0b", 0);
        gives("return with a result", 0, "41 00 0f 0b", 0);
        gives("return without", 0, "0f 0b", 2);
        gives("return with another", 0, "42 00 0f 0b", 2);
        gives("return from a block", 0, "02 40 41 00 0f 0b 41 00 0b", 0);
        gives("return from a block with another result", 0, "02 7e 41 00 0f 0b 1a 41 00 0b", 0);
        gives("return from a block with that", 0, "02 7e 42 00 0f 0b 1a 41 00 0b", 2);
        gives("return with more than is due", 0, "42 00 41 00 0f 0b", 0);
    }

    /** Function 0 is of (i32, i64) -> i64 and imported; function 1 has the body and is of () -> (); 2 likewise. */
    private static void calling(String what, String instructions, int due) {
        Wasm.reads(what, Wasm.module(
                Wasm.section(1, "02 60 00 00 60 02 7f 7e 01 7e"), Wasm.section(2, "01 00 00 00 01"),
                Wasm.section(3, "02 00 00"), TABLE,
                Wasm.section(10, "02", Wasm.sized("00", instructions), "02 00 0b")), due);
    }

    private static void calls() {
        calling("call of an imported function", "41 00 42 00 10 00 1a 0b", 0);
        calling("call with what is in wrong order", "42 00 41 00 10 00 1a 0b", 2);
        calling("call with too little", "42 00 10 00 1a 0b", 2);
        calling("call with a result that stays", "41 00 42 00 10 00 0b", 2);
        calling("call whose result is an i64", "41 00 42 00 10 00 50 1a 0b", 0);
        calling("call whose result is no i32", "41 00 42 00 10 00 45 1a 0b", 2);
        calling("call of itself", "10 01 0b", 0);
        calling("call of the next", "10 02 0b", 0);
        calling("call of no result", "10 02 1a 0b", 2);
        calling("call of what is not there", "10 03 0b", 2);
        calling("call far beyond", "10 ff ff ff ff 0f 0b", 2);
        calling("call beyond, never reached", "00 10 03 0b", 2);
    }

    private static void indirectCalls() {
        calling("call_indirect", "41 00 42 00 41 00 11 01 00 1a 0b", 0);
        calling("call_indirect of no parameters", "41 00 11 00 00 0b", 0);
        calling("call_indirect of no result", "41 00 11 00 00 1a 0b", 2);
        calling("call_indirect of an i64", "42 00 11 00 00 0b", 2);
        calling("call_indirect of nothing", "11 00 00 0b", 2);
        calling("call_indirect with what is in wrong order", "42 00 41 00 41 00 11 01 00 1a 0b", 2);
        calling("call_indirect of a type that is not there", "41 00 11 02 00 0b", 2);
        calling("call_indirect of a type far beyond", "41 00 11 ff ff ff ff 0f 00 0b", 2);
        body("call_indirect without a table", "41 00 11 00 00 0b", 2);
        Wasm.reads("call_indirect with an imported table", Wasm.module(
                Wasm.section(1, "01 60 00 00"), Wasm.section(2, "01 00 00 01 70 00 00"), Wasm.section(3, "01 00"),
                Wasm.section(10, "01", Wasm.sized("00 41 00 11 00 00 0b"))), 0);
    }

    private static void dropAndSelect() {
        body("drop of an i32", "41 00 1a 0b", 0);
        body("drop of an i64", "42 00 1a 0b", 0);
        body("drop of nothing", "1a 0b", 2);
        gives("select of i32", 0, "41 00 41 00 41 00 1b 0b", 0);
        gives("select of i64", 1, "42 00 42 00 41 00 1b 0b", 0);
        gives("select of two types", 0, "41 00 42 00 41 00 1b 0b", 2);
        gives("select of two types, the other way", 1, "42 00 41 00 41 00 1b 0b", 2);
        gives("select by an i64", 0, "41 00 41 00 42 00 1b 0b", 2);
        gives("select of too little", 0, "41 00 41 00 1b 0b", 2);
        gives("select's type is known", 0, "42 00 42 00 41 00 1b 0b", 2);
    }

    /** Parameters i32 and i64, locals i64 and i32. */
    private static void local(String what, String instructions, int due) {
        Wasm.reads(what, Wasm.body("02 7f 7e 00", "02 01 7e 01 7f", instructions), due);
    }

    private static void locals() {
        int[] types = {0, 1, 1, 0};
        String[] tests = {" 45 1a 0b", " 50 1a 0b"};
        for (int k = 0; k < 6; k++) {
            for (int type = 0; type < 2; type++) {
                int due = k < types.length && types[k] == type ? 0 : 2;
                local("local.get", "20 0" + k + tests[type], due);
                local("local.set", CONSTANTS[type] + " 21 0" + k + " 0b", due);
                local("local.tee", CONSTANTS[type] + " 22 0" + k + tests[type], due);
            }
            local("local.set of nothing", "21 0" + k + " 0b", 2);
            local("local.tee of nothing", "22 0" + k + " 1a 0b", 2);
            local("local.get, never reached", "00 20 0" + k + " 1a 0b", k < types.length ? 0 : 2);
        }
        local("local.set leaves nothing", "41 00 21 00 1a 0b", 2);
        local("local.tee leaves it", "41 00 22 00 0b", 2);
        local("a local far beyond", "20 ff ff ff ff 0f 1a 0b", 2);
        body("no locals", "20 00 1a 0b", 2);
    }

    private static void globals() {
        // 0: i32 imported, 1: i64 imported that may be changed, 2: i64, 3: i32 that may be changed.
        Object[] head = {Wasm.section(1, "01 60 00 00"), Wasm.section(2, "02 00 00 03 7f 00 00 00 03 7e 01"),
            Wasm.section(3, "01 00"), Wasm.section(6, "02 7e 00 42 00 0b 7f 01 41 00 0b")};
        int[] types = {0, 1, 1, 0};
        boolean[] mutable = {false, true, false, true};
        String[] tests = {" 45 1a 0b", " 50 1a 0b"};
        for (int g = 0; g < 6; g++) {
            for (int type = 0; type < 2; type++) {
                boolean fits = g < types.length && types[g] == type;
                Wasm.reads("global.get", Wasm.module(Wasm.bytes(head), Wasm.section(10, "01",
                        Wasm.sized("00 23", g, tests[type]))), fits ? 0 : 2);
                Wasm.reads("global.set", Wasm.module(Wasm.bytes(head), Wasm.section(10, "01",
                        Wasm.sized("00", CONSTANTS[type], "24", g, "0b"))), fits && mutable[g] ? 0 : 2);
            }
            Wasm.reads("global.set of nothing", Wasm.module(Wasm.bytes(head), Wasm.section(10, "01",
                    Wasm.sized("00 24", g, "0b"))), 2);
        }
        body("no globals", "23 00 1a 0b", 2);
        body("a global far beyond", "23 ff ff ff ff 0f 1a 0b", 2);
    }

    private static void unreachable() {
        String[] leaving = {"00 ", "0f ", "0c 00 ", "41 00 0e 00 00 "};
        for (String leave : leaving) {
            body("operands from nowhere", leave + "6a 1a 0b", 0);
            body("drop from nowhere", leave + "1a 1a 1a 0b", 0);
            body("select from nowhere", leave + "1b 1a 0b", 0);
            body("select of what is not known, used as an i64", leave + "1b 50 1a 0b", 0);
            body("select of an i32 and what is not known", leave + "41 00 41 00 1b 45 1a 0b", 0);
            body("select's other type is then known", leave + "42 00 41 00 1b 45 1a 0b", 2);
            body("a known operand of a wrong type", leave + "42 00 45 1a 0b", 2);
            body("a known operand and one from nowhere", leave + "42 00 7c 1a 0b", 0);
            body("a known result where none is due", leave + "41 00 0b", 2);
            body("if from nowhere", leave + "04 40 0b 0b", 0);
            body("a block in it is held to be reached", leave + "02 7f 0b 1a 0b", 2);
            body("a block in it pops nothing from nowhere", leave + "02 40 1a 0b 0b", 2);
            body("local.set from nowhere without locals", leave + "21 00 0b", 2);
        }
        gives("the result from nowhere", 0, "00 0b", 0);
        gives("a known result of a wrong type", 0, "00 42 00 0b", 2);
        gives("two results", 0, "00 41 00 41 00 0b", 2);
        gives("behind a block that leaves all is reached", 0, "02 40 00 0b 0b", 2);
        gives("a block's result from nowhere", 0, "02 7f 00 0b 0b", 0);
        gives("what was there before is gone", 0, "42 00 00 0b", 0);
        gives("br_if from nowhere leaves the label's type", 0, "02 7e 00 0d 00 0b 1a 41 00 0b", 0);
        gives("br_if from nowhere leaves no other", 0, "02 7e 00 0d 00 45 1a 42 00 0b 1a 41 00 0b", 2);
        gives("an operation from nowhere leaves its type", 0, "00 7c 0b", 2);
    }

    private static void otherBodies() {
        byte[] two = Wasm.module(Wasm.section(1, "01 60 00 00"), Wasm.section(3, "02 00 00"),
                Wasm.section(10, "02 02 00 0b 04 00 41 00 0b"));
        Wasm.reads("the second body is wrong", two, 2);
        Wasm.reads("each body begins anew", Wasm.module(
                Wasm.section(1, "02 60 00 00 60 00 01 7f"), Wasm.section(3, "02 00 01"),
                Wasm.section(10, "02 03 00 00 0b 02 00 0b")), 2);
        Wasm.reads("1000 operands", Wasm.body(Wasm.bytes(Wasm.times(1000, "41 00"), Wasm.times(1000, "1a"), "0b")), 0);
        Wasm.reads("1000 operands and one drop too many",
                Wasm.body(Wasm.bytes(Wasm.times(1000, "41 00"), Wasm.times(1001, "1a"), "0b")), 2);
        Wasm.reads("1900 operands, then none",
                Wasm.body("00 00", "00", Wasm.bytes(Wasm.times(1900, "3f 00"), "00 0b"), MEMORY), 0);
    }
}
