/** A reader of modules of WebAssembly: whether bytes are one, valid, and not too large; and what it says. */
public final class WasmReader {
    private static final int MALFORMED = 1;
    private static final int INVALID = 2;
    private static final int TOO_LARGE = 3;

    private static final int ROW_BYTES = 4000;
    private static final int FED_BYTES = 20;

    private static final int MOST_TYPES = 40;
    private static final int MOST_PARAMETERS = 6;
    private static final int MOST_IMPORTS = 30;
    private static final int MOST_FUNCTIONS = 60;
    private static final int MOST_GLOBALS = 30;
    private static final int MOST_EXPORTS = 40;
    private static final int MOST_SEGMENTS = 20;
    private static final int MOST_LOCALS = 30;
    private static final int MOST_BLOCKS = 30;
    private static final int MOST_LABELS = 20;
    private static final int MOST_NAME_BYTES = 20;
    private static final int MOST_OWN_TABLE = 200;
    private static final int MOST_OWN_PAGES = 2;
    private static final long MOST_UNSIGNED = 0xffffffffL;
    private static final long MOST_PAGES = 65536;
    private static final long MOST_INT = 0x7fffffffL;
    private static final int NO_START = -1;

    // The types that a value, a result or a label may have; NONE where there is no value.
    private static final int NONE = -1;
    private static final int I32 = 0;
    private static final int I64 = 1;
    private static final int UNKNOWN = 2;

    private static final int CODE_OF_I32 = 0x7f;
    private static final int CODE_OF_I64 = 0x7e;
    private static final int CODE_OF_NO_RESULT = 0x40;
    private static final int CODE_OF_FUNCTION_TYPE = 0x60;
    private static final int CODE_OF_FUNCTION_REFERENCE = 0x70;

    // What is imported or exported, by the number that stands for it in the bytes.
    private static final int FUNCTION = 0;
    private static final int TABLE = 1;
    private static final int MEMORY = 2;
    private static final int GLOBAL = 3;

    private static final int UNREACHABLE = 0x00;
    private static final int NOP = 0x01;
    private static final int BLOCK = 0x02;
    private static final int LOOP = 0x03;
    private static final int IF = 0x04;
    private static final int ELSE = 0x05;
    private static final int END = 0x0b;
    private static final int BR = 0x0c;
    private static final int BR_IF = 0x0d;
    private static final int BR_TABLE = 0x0e;
    private static final int RETURN = 0x0f;
    private static final int CALL = 0x10;
    private static final int CALL_INDIRECT = 0x11;
    private static final int DROP = 0x1a;
    private static final int SELECT = 0x1b;
    private static final int LOCAL_GET = 0x20;
    private static final int LOCAL_SET = 0x21;
    private static final int LOCAL_TEE = 0x22;
    private static final int GLOBAL_GET = 0x23;
    private static final int GLOBAL_SET = 0x24;
    private static final int FIRST_ACCESS = 0x28;
    private static final int FIRST_STORE = 0x36;
    private static final int MEMORY_SIZE = 0x3f;
    private static final int MEMORY_GROW = 0x40;
    private static final int I32_CONST = 0x41;
    private static final int I64_CONST = 0x42;

    // Of the loads and stores, from FIRST_ACCESS on: the highest alignment (-1: it is of floats), and the type.
    private static final int[] ACCESS_ALIGNMENT = {
        2, 3, -1, -1, 0, 0, 1, 1, 0, 0, 1, 1, 2, 2, 2, 3, -1, -1, 0, 1, 0, 1, 2};
    private static final int[] ACCESS_TYPE = {
        I32, I64, NONE, NONE, I32, I32, I32, I32, I64, I64, I64, I64, I64, I64,
        I32, I64, NONE, NONE, I32, I32, I64, I64, I64};

    // Of the numeric instructions, row by row: first and last opcode, how many operands, their type, the result's.
    private static final int NUMERIC_COLUMNS = 5;
    private static final int[] NUMERIC = {
        0x45, 0x45, 1, I32, I32,
        0x46, 0x4f, 2, I32, I32,
        0x50, 0x50, 1, I64, I32,
        0x51, 0x5a, 2, I64, I32,
        0x67, 0x69, 1, I32, I32,
        0x6a, 0x78, 2, I32, I32,
        0x79, 0x7b, 1, I64, I64,
        0x7c, 0x8a, 2, I64, I64,
        0xa7, 0xa7, 1, I64, I32,
        0xac, 0xad, 1, I32, I64};

    private final Cursor cursor = new Cursor();
    private final WasmModule module = new WasmModule();
    private final boolean[] elseMayCome = new boolean[ROW_BYTES / 2];
    private final TypeStack stack = new TypeStack();
    private boolean present;

    public WasmReader() {
    }

    public int feed(int a, int b, int c, int d, int e) throws IllegalStateException {
        if (cursor.length > ROW_BYTES - FED_BYTES) {
            throw new IllegalStateException();
        }
        cursor.append(a);
        cursor.append(b);
        cursor.append(c);
        cursor.append(d);
        cursor.append(e);
        return cursor.length;
    }

    public int end(int n) throws IllegalArgumentException {
        if (n < 0 || n > cursor.length) {
            throw new IllegalArgumentException();
        }
        cursor.length = n;
        return n;
    }

    public int read() {
        module.clear();
        cursor.malformed = false;
        cursor.span(0, cursor.length);
        Grammar grammar = new Grammar(cursor, module, elseMayCome);
        grammar.header();
        grammar.sections();
        int fault = 0;
        if (cursor.malformed) {
            fault = MALFORMED;
        } else if (module.isTooLarge()) {
            fault = TOO_LARGE;
        } else if (!new Validity(cursor, module, stack).holds()) {
            fault = INVALID;
        }
        cursor.length = 0;
        present = fault == 0;
        return fault;
    }

    public int count(int what) throws IllegalStateException, IllegalArgumentException {
        if (!present) {
            throw new IllegalStateException();
        }
        switch (what) {
            case 0: return module.types.count;
            case 1: return module.imports;
            case 2: return module.functions.count;
            case 3: return module.functions.imported;
            case 4: return module.globals.count;
            case 5: return module.exports.count;
            case 6: return module.elements.count;
            case 7: return module.data.count;
            case 8: return module.tables.count;
            case 9: return module.memories.count;
            case 10: return module.start;
            default: throw new IllegalArgumentException();
        }
    }

    public int function(int f, int what)
            throws IllegalStateException, IndexOutOfBoundsException, IllegalArgumentException {
        if (!present) {
            throw new IllegalStateException();
        }
        Functions functions = module.functions;
        if (!functions.has(f)) {
            throw new IndexOutOfBoundsException();
        }
        switch (what) {
            case 0: return functions.parameters[f];
            case 1: return functions.result[f] == NONE ? 0 : 1;
            case 2: return functions.locals[f];
            case 3: return functions.bodyBytes[f];
            default: break;
        }
        if (what < 10 || !functions.hasLocal(f, what - 10)) {
            throw new IllegalArgumentException();
        }
        return functions.typeOfLocal(f, what - 10);
    }

    public int export(int e, int what)
            throws IllegalStateException, IndexOutOfBoundsException, IllegalArgumentException {
        if (!present) {
            throw new IllegalStateException();
        }
        Exports exports = module.exports;
        if (!exports.has(e)) {
            throw new IndexOutOfBoundsException();
        }
        switch (what) {
            case 0: return exports.sort[e];
            case 1: return exports.number[e];
            case 2: return exports.nameLength[e];
            default: break;
        }
        if (what < 10 || what - 10 >= exports.nameLength[e]) {
            throw new IllegalArgumentException();
        }
        return exports.nameByte(e, what - 10);
    }

    public int global(int g, int what)
            throws IllegalStateException, IndexOutOfBoundsException, IllegalArgumentException {
        if (!present) {
            throw new IllegalStateException();
        }
        Globals globals = module.globals;
        if (!globals.has(g)) {
            throw new IndexOutOfBoundsException();
        }
        switch (what) {
            case 0: return globals.type[g];
            case 1: return globals.mutable[g] ? 1 : 0;
            case 2: return globals.origin(g);
            default: throw new IllegalArgumentException();
        }
    }

    public long initial(int g) throws IllegalStateException, IndexOutOfBoundsException {
        if (!present) {
            throw new IllegalStateException();
        }
        if (!module.globals.has(g)) {
            throw new IndexOutOfBoundsException();
        }
        return module.globals.initialValue[g];
    }

    private static int typeOfCode(int code) {
        return code == CODE_OF_I32 ? I32 : code == CODE_OF_I64 ? I64 : NONE;
    }

    private static boolean isAccess(int opcode) {
        int k = opcode - FIRST_ACCESS;
        return k >= 0 && k < ACCESS_ALIGNMENT.length && ACCESS_ALIGNMENT[k] >= 0;
    }

    /** Where the row of a numeric instruction begins in NUMERIC, or -1 for any other opcode. */
    private static int numericRow(int opcode) {
        for (int row = 0; row + NUMERIC_COLUMNS <= NUMERIC.length; row += NUMERIC_COLUMNS) {
            if (opcode >= NUMERIC[row] && opcode <= NUMERIC[row + 1]) {
                return row;
            }
        }
        return -1;
    }

    /** THE ROW, and the place in it that is read next, within a span of it. */
    private static final class Cursor {
        final byte[] bytes = new byte[ROW_BYTES];
        int length;
        int position;
        int limit;
        boolean malformed;

        void append(int word) {
            for (int shift = 24; shift >= 0; shift -= 8) {
                if (length < bytes.length) {
                    bytes[length] = (byte) (word >> shift);
                    length++;
                }
            }
        }

        void span(int from, int to) {
            position = from;
            limit = to;
        }

        boolean more() {
            return !malformed && position < limit;
        }

        void fail() {
            malformed = true;
        }

        int nextByte() {
            if (position < 0 || position >= limit || position >= bytes.length) {
                malformed = true;
                return 0;
            }
            int next = bytes[position] & 0xff;
            position++;
            return next;
        }

        void expect(int due) {
            if (nextByte() != due) {
                fail();
            }
        }

        long unsigned() {
            long value = 0;
            for (int shift = 0; shift < 32; shift += 7) {
                int next = nextByte();
                value |= (long) (next & 0x7f) << shift;
                if (next < 0x80) {
                    if (value > MOST_UNSIGNED) {
                        fail();
                    }
                    return value;
                }
            }
            fail();
            return 0;
        }

        /** An unsigned number that only counts if it is small; no limit comes near what it is cut to. */
        int index() {
            return (int) Math.min(unsigned(), MOST_INT);
        }

        long signed(int bits) {
            long value = 0;
            for (int shift = 0; shift < bits; shift += 7) {
                int next = nextByte();
                value |= (long) (next & 0x7f) << shift;
                if (next < 0x80) {
                    return withSign(value, shift + 7, bits, next);
                }
            }
            fail();
            return 0;
        }

        private long withSign(long value, int bitsRead, int bits, int last) {
            long extended = value;
            if (bitsRead < 64) {
                extended = value << (64 - bitsRead) >> (64 - bitsRead);
            } else if (last != 0 && last != 0x7f) {
                fail();
            }
            if (bits == 32 && extended != (int) extended) {
                fail();
            }
            return extended;
        }

        /** How many parts follow; each has a byte at least, so that more than there are bytes cannot be. */
        int vector() {
            long parts = unsigned();
            if (malformed || parts > limit - position) {
                fail();
                return 0;
            }
            return (int) parts;
        }

        void skip(int many) {
            if (many < 0 || many > limit - position) {
                fail();
            } else {
                position += many;
            }
        }

        /** Reads a size and keeps to it, until widen is given the limit that is returned here. */
        int narrow() {
            int outer = limit;
            int size = vector();
            limit = position + size;
            return outer;
        }

        void widen(int outer) {
            if (position != limit) {
                fail();
            }
            limit = outer;
        }
    }

    private static final class Types {
        int count;
        final int[] parameters = new int[MOST_TYPES];
        /** Bit k is 1 if parameter k is an i64. */
        final int[] longs = new int[MOST_TYPES];
        final int[] result = new int[MOST_TYPES];

        void add(int itsParameters, int itsLongs, int itsResult) {
            if (count < MOST_TYPES) {
                parameters[count] = itsParameters;
                longs[count] = itsLongs;
                result[count] = itsResult;
            }
            count++;
        }

        boolean has(int t) {
            return t >= 0 && t < count && t < MOST_TYPES;
        }
    }

    private static final class Functions {
        int count;
        int imported;
        int bodies;
        final int[] type = new int[MOST_FUNCTIONS];
        final int[] parameters = new int[MOST_FUNCTIONS];
        final int[] result = new int[MOST_FUNCTIONS];
        final int[] locals = new int[MOST_FUNCTIONS];
        /** Bit k is 1 if parameter or local k is an i64. */
        final int[] longs = new int[MOST_FUNCTIONS];
        final int[] bodyStart = new int[MOST_FUNCTIONS];
        final int[] bodyBytes = new int[MOST_FUNCTIONS];

        void add(int itsType, Types types) {
            if (count < MOST_FUNCTIONS) {
                boolean known = types.has(itsType);
                type[count] = itsType;
                parameters[count] = known ? types.parameters[itsType] : 0;
                result[count] = known ? types.result[itsType] : NONE;
                longs[count] = known ? types.longs[itsType] : 0;
                locals[count] = 0;
                bodyStart[count] = 0;
                bodyBytes[count] = 0;
            }
            count++;
        }

        boolean has(int f) {
            return f >= 0 && f < count && f < MOST_FUNCTIONS;
        }

        /** Adds locals of one type as far as there is room for them: whether there was. */
        boolean addLocals(int f, long many, int itsType) {
            if (!has(f)) {
                return true;
            }
            int first = parameters[f] + locals[f];
            if (many > MOST_LOCALS - first) {
                return false;
            }
            for (int k = first; k < first + many && k < MOST_LOCALS; k++) {
                longs[f] |= itsType == I64 ? 1 << k : 0;
            }
            locals[f] += (int) many;
            return true;
        }

        void setBody(int f, int start, int bytes) {
            if (has(f)) {
                bodyStart[f] = start;
                bodyBytes[f] = bytes;
            }
        }

        boolean hasLocal(int f, int k) {
            return has(f) && k >= 0 && k < parameters[f] + locals[f];
        }

        int typeOfLocal(int f, int k) {
            if (!hasLocal(f, k)) {
                return UNKNOWN;
            }
            return (longs[f] >> k & 1) == 1 ? I64 : I32;
        }
    }

    private static final class Globals {
        int count;
        int imported;
        final int[] type = new int[MOST_GLOBALS];
        final boolean[] mutable = new boolean[MOST_GLOBALS];
        final int[] initialOpcode = new int[MOST_GLOBALS];
        final long[] initialValue = new long[MOST_GLOBALS];

        void add(int itsType, boolean isMutable) {
            if (count < MOST_GLOBALS) {
                type[count] = itsType;
                mutable[count] = isMutable;
                initialOpcode[count] = NOP;
                initialValue[count] = 0;
            }
            count++;
        }

        void setLastInitial(int opcode, long value) {
            if (has(count - 1)) {
                initialOpcode[count - 1] = opcode;
                initialValue[count - 1] = value;
            }
        }

        boolean has(int g) {
            return g >= 0 && g < count && g < MOST_GLOBALS;
        }

        /** 0 if it is imported, 1 if its INITIAL is a constant, 2 if that is another global. */
        int origin(int g) {
            if (!has(g) || g < imported) {
                return 0;
            }
            return initialOpcode[g] == GLOBAL_GET ? 2 : 1;
        }
    }

    private static final class Exports {
        int count;
        final int[] sort = new int[MOST_EXPORTS];
        final int[] number = new int[MOST_EXPORTS];
        final int[] nameLength = new int[MOST_EXPORTS];
        final byte[] names = new byte[MOST_EXPORTS * MOST_NAME_BYTES];

        /** Keeps the name for the export that is added next: of the bytes, those from a place on. */
        void setNextName(byte[] bytes, int from, int length) {
            if (count >= MOST_EXPORTS) {
                return;
            }
            nameLength[count] = Math.min(length, MOST_NAME_BYTES);
            for (int k = 0; k < length && k < MOST_NAME_BYTES && from + k < bytes.length; k++) {
                names[count * MOST_NAME_BYTES + k] = bytes[from + k];
            }
        }

        void add(int itsSort, int itsNumber) {
            if (count < MOST_EXPORTS) {
                sort[count] = itsSort;
                number[count] = itsNumber;
            }
            count++;
        }

        boolean has(int e) {
            return e >= 0 && e < count && e < MOST_EXPORTS;
        }

        int nameByte(int e, int k) {
            return has(e) && k >= 0 && k < MOST_NAME_BYTES ? names[e * MOST_NAME_BYTES + k] & 0xff : 0;
        }

        boolean sameName(int e, int other) {
            if (!has(e) || !has(other) || nameLength[e] != nameLength[other]) {
                return false;
            }
            for (int k = 0; k < nameLength[e]; k++) {
                if (nameByte(e, k) != nameByte(other, k)) {
                    return false;
                }
            }
            return true;
        }
    }

    /** The elements, or the data. */
    private static final class Segments {
        int count;
        /** The number of the table or memory that it is for. */
        final int[] target = new int[MOST_SEGMENTS];
        final int[] offsetOpcode = new int[MOST_SEGMENTS];
        final long[] offsetValue = new long[MOST_SEGMENTS];
        /** The highest number of a function in it, or -1. */
        final int[] highest = new int[MOST_SEGMENTS];

        void add(int itsTarget, int opcode, long value, int itsHighest) {
            if (count < MOST_SEGMENTS) {
                target[count] = itsTarget;
                offsetOpcode[count] = opcode;
                offsetValue[count] = value;
                highest[count] = itsHighest;
            }
            count++;
        }
    }

    /** The tables, or the memories: more than one is never valid, so only the last one's size is kept. */
    private static final class Sized {
        int count;
        long least;
        long most;

        void add(Cursor cursor) {
            int flag = cursor.nextByte();
            least = cursor.unsigned();
            most = flag == 0 ? least : cursor.unsigned();
            if (flag > 1) {
                cursor.fail();
            }
            count++;
        }

        boolean holds(long range) {
            return count == 0 || count == 1 && least <= most && most <= range;
        }
    }

    /** What a module says, as far as there is room for it; the counts go on beyond that. */
    private static final class WasmModule {
        final Types types = new Types();
        final Functions functions = new Functions();
        final Globals globals = new Globals();
        final Exports exports = new Exports();
        final Segments elements = new Segments();
        final Segments data = new Segments();
        final Sized tables = new Sized();
        final Sized memories = new Sized();
        int imports;
        int start;
        /** Whether a part is too large in itself, whatever the counts are. */
        boolean partTooLarge;

        void clear() {
            types.count = 0;
            functions.count = 0;
            functions.imported = 0;
            functions.bodies = 0;
            globals.count = 0;
            globals.imported = 0;
            exports.count = 0;
            elements.count = 0;
            data.count = 0;
            tables.count = 0;
            memories.count = 0;
            imports = 0;
            start = NO_START;
            partTooLarge = false;
        }

        boolean isTooLarge() {
            return partTooLarge || types.count > MOST_TYPES || imports > MOST_IMPORTS
                    || functions.count > MOST_FUNCTIONS || globals.count > MOST_GLOBALS
                    || exports.count > MOST_EXPORTS
                    || elements.count > MOST_SEGMENTS || data.count > MOST_SEGMENTS;
        }
    }

    /** The binary format: fills the module, tells the cursor what is malformed and the module what is too large. */
    private static final class Grammar {
        final Cursor cursor;
        final WasmModule module;
        /** For each open block, whether it is an if that has no else yet. */
        final boolean[] elseMayCome;

        Grammar(Cursor cursor, WasmModule module, boolean[] elseMayCome) {
            this.cursor = cursor;
            this.module = module;
            this.elseMayCome = elseMayCome;
        }

        void header() {
            cursor.expect(0);
            cursor.expect(0x61);
            cursor.expect(0x73);
            cursor.expect(0x6d);
            cursor.expect(1);
            cursor.expect(0);
            cursor.expect(0);
            cursor.expect(0);
        }

        void sections() {
            int last = 0;
            for (int n = 0; n < ROW_BYTES && cursor.more(); n++) {
                int section = cursor.nextByte();
                int outer = cursor.narrow();
                if (section != 0 && section <= last) {
                    cursor.fail();
                }
                last = Math.max(last, section);
                switch (section) {
                    case 0: customSection(); break;
                    case 1: typeSection(); break;
                    case 2: importSection(); break;
                    case 3: functionSection(); break;
                    case 4: tableSection(); break;
                    case 5: memorySection(); break;
                    case 6: globalSection(); break;
                    case 7: exportSection(); break;
                    case 8: module.start = cursor.index(); break;
                    case 9: elementSection(); break;
                    case 10: codeSection(); break;
                    case 11: dataSection(); break;
                    default: cursor.fail(); break;
                }
                cursor.widen(outer);
            }
            if (module.functions.bodies != module.functions.count - module.functions.imported) {
                cursor.fail();
            }
        }

        private void customSection() {
            cursor.skip(cursor.vector());
            cursor.skip(cursor.limit - cursor.position);
        }

        private void typeSection() {
            int parts = cursor.vector();
            for (int n = 0; n < parts && !cursor.malformed; n++) {
                cursor.expect(CODE_OF_FUNCTION_TYPE);
                int parameters = atMost(MOST_PARAMETERS);
                int longs = 0;
                for (int k = 0; k < parameters && k < MOST_PARAMETERS; k++) {
                    longs |= valueType() == I64 ? 1 << k : 0;
                }
                int result = atMost(1) == 0 ? NONE : valueType();
                module.types.add(parameters, longs, result);
            }
        }

        private int atMost(int most) {
            int parts = cursor.vector();
            if (parts > most) {
                cursor.fail();
            }
            return parts;
        }

        private int valueType() {
            int type = typeOfCode(cursor.nextByte());
            if (type == NONE) {
                cursor.fail();
            }
            return type;
        }

        private void importSection() {
            int parts = cursor.vector();
            for (int n = 0; n < parts && !cursor.malformed; n++) {
                cursor.skip(nameLength());
                cursor.skip(nameLength());
                switch (cursor.nextByte()) {
                    case FUNCTION:
                        module.functions.add(cursor.index(), module.types);
                        module.functions.imported++;
                        break;
                    case TABLE:
                        table();
                        break;
                    case MEMORY:
                        module.memories.add(cursor);
                        break;
                    case GLOBAL:
                        globalType();
                        module.globals.imported++;
                        break;
                    default:
                        cursor.fail();
                        break;
                }
                module.imports++;
            }
        }

        private int nameLength() {
            int length = cursor.vector();
            if (length > MOST_NAME_BYTES) {
                module.partTooLarge = true;
            }
            return length;
        }

        private void table() {
            cursor.expect(CODE_OF_FUNCTION_REFERENCE);
            module.tables.add(cursor);
        }

        private void globalType() {
            int type = valueType();
            int mutable = cursor.nextByte();
            if (mutable > 1) {
                cursor.fail();
            }
            module.globals.add(type, mutable == 1);
        }

        private void functionSection() {
            int parts = cursor.vector();
            for (int n = 0; n < parts && !cursor.malformed; n++) {
                module.functions.add(cursor.index(), module.types);
            }
        }

        private void tableSection() {
            int parts = cursor.vector();
            for (int n = 0; n < parts && !cursor.malformed; n++) {
                table();
                if (module.tables.least > MOST_OWN_TABLE) {
                    module.partTooLarge = true;
                }
            }
        }

        private void memorySection() {
            int parts = cursor.vector();
            for (int n = 0; n < parts && !cursor.malformed; n++) {
                module.memories.add(cursor);
                if (module.memories.least > MOST_OWN_PAGES) {
                    module.partTooLarge = true;
                }
            }
        }

        private void globalSection() {
            int parts = cursor.vector();
            for (int n = 0; n < parts && !cursor.malformed; n++) {
                globalType();
                int opcode = cursor.nextByte();
                module.globals.setLastInitial(opcode, valueOfInitial(opcode));
            }
        }

        /** What follows the opcode of an INITIAL, with its end. */
        private long valueOfInitial(int opcode) {
            long value = 0;
            switch (opcode) {
                case I32_CONST: value = cursor.signed(32); break;
                case I64_CONST: value = cursor.signed(64); break;
                case GLOBAL_GET: value = cursor.index(); break;
                default: cursor.fail(); break;
            }
            cursor.expect(END);
            return value;
        }

        private void exportSection() {
            int parts = cursor.vector();
            for (int n = 0; n < parts && !cursor.malformed; n++) {
                int length = nameLength();
                module.exports.setNextName(cursor.bytes, cursor.position, length);
                cursor.skip(length);
                int sort = cursor.nextByte();
                if (sort > GLOBAL) {
                    cursor.fail();
                }
                module.exports.add(sort, cursor.index());
            }
        }

        private void elementSection() {
            int parts = cursor.vector();
            for (int n = 0; n < parts && !cursor.malformed; n++) {
                int table = cursor.index();
                int opcode = cursor.nextByte();
                long value = valueOfInitial(opcode);
                module.elements.add(table, opcode, value, highestFunction());
            }
        }

        private int highestFunction() {
            int highest = -1;
            int parts = cursor.vector();
            for (int n = 0; n < parts && !cursor.malformed; n++) {
                highest = Math.max(highest, cursor.index());
            }
            return highest;
        }

        private void dataSection() {
            int parts = cursor.vector();
            for (int n = 0; n < parts && !cursor.malformed; n++) {
                int memory = cursor.index();
                int opcode = cursor.nextByte();
                long value = valueOfInitial(opcode);
                module.data.add(memory, opcode, value, -1);
                cursor.skip(cursor.vector());
            }
        }

        private void codeSection() {
            int parts = cursor.vector();
            for (int n = 0; n < parts && !cursor.malformed; n++) {
                int function = module.functions.imported + n;
                int outer = cursor.narrow();
                locals(function);
                int start = cursor.position;
                instructions();
                module.functions.setBody(function, start, cursor.position - start);
                cursor.widen(outer);
            }
            module.functions.bodies = parts;
        }

        private void locals(int function) {
            long total = 0;
            int parts = cursor.vector();
            for (int n = 0; n < parts && !cursor.malformed; n++) {
                long many = cursor.unsigned();
                if (!module.functions.addLocals(function, many, valueType())) {
                    module.partTooLarge = true;
                }
                total += many;
            }
            if (total > MOST_UNSIGNED) {
                cursor.fail();
            }
        }

        private void instructions() {
            int open = 0;
            for (int n = 0; n < ROW_BYTES && cursor.more(); n++) {
                int opcode = cursor.nextByte();
                if (opcode == END && open == 0) {
                    return;
                }
                switch (opcode) {
                    case END:
                        open--;
                        break;
                    case ELSE:
                        elseOf(open - 1);
                        break;
                    case BLOCK: case LOOP: case IF:
                        blockType();
                        openBlock(open, opcode == IF);
                        open++;
                        break;
                    case BR_TABLE:
                        labels();
                        break;
                    default:
                        operands(opcode);
                        break;
                }
            }
            cursor.fail();
        }

        private void elseOf(int block) {
            if (block < 0 || block >= elseMayCome.length || !elseMayCome[block]) {
                cursor.fail();
            } else {
                elseMayCome[block] = false;
            }
        }

        private void blockType() {
            int code = cursor.nextByte();
            if (code != CODE_OF_NO_RESULT && typeOfCode(code) == NONE) {
                cursor.fail();
            }
        }

        private void openBlock(int block, boolean isIf) {
            if (block >= MOST_BLOCKS) {
                module.partTooLarge = true;
            }
            if (block >= 0 && block < elseMayCome.length) {
                elseMayCome[block] = isIf;
            }
        }

        private void labels() {
            int parts = cursor.vector();
            if (parts > MOST_LABELS) {
                module.partTooLarge = true;
            }
            for (int n = 0; n < parts && !cursor.malformed; n++) {
                cursor.unsigned();
            }
            cursor.unsigned();
        }

        private void operands(int opcode) {
            switch (opcode) {
                case UNREACHABLE: case NOP: case RETURN: case DROP: case SELECT:
                    break;
                case BR: case BR_IF: case CALL:
                case LOCAL_GET: case LOCAL_SET: case LOCAL_TEE: case GLOBAL_GET: case GLOBAL_SET:
                    cursor.unsigned();
                    break;
                case CALL_INDIRECT:
                    cursor.unsigned();
                    cursor.expect(0);
                    break;
                case MEMORY_SIZE: case MEMORY_GROW:
                    cursor.expect(0);
                    break;
                case I32_CONST:
                    cursor.signed(32);
                    break;
                case I64_CONST:
                    cursor.signed(64);
                    break;
                default:
                    if (isAccess(opcode)) {
                        cursor.unsigned();
                        cursor.unsigned();
                    } else if (numericRow(opcode) < 0) {
                        cursor.fail();
                    }
                    break;
            }
        }
    }

    /** The operands and blocks at a place of a body: frame 0 is the function itself, the others are its open blocks. */
    private static final class TypeStack {
        final byte[] operands = new byte[ROW_BYTES];
        final int[] opener = new int[MOST_BLOCKS + 1];
        final int[] result = new int[MOST_BLOCKS + 1];
        /** How many operands there were when the frame began: those are not for it. */
        final int[] floor = new int[MOST_BLOCKS + 1];
        final boolean[] unreachable = new boolean[MOST_BLOCKS + 1];
        int height;
        int top;
        boolean wrong;

        void begin(int resultOfFunction) {
            height = 0;
            top = -1;
            wrong = false;
            open(BLOCK, resultOfFunction);
        }

        void require(boolean condition) {
            if (!condition) {
                wrong = true;
            }
        }

        void open(int itsOpener, int itsResult) {
            if (top >= MOST_BLOCKS) {
                wrong = true;
                return;
            }
            top++;
            opener[top] = itsOpener;
            result[top] = itsResult;
            floor[top] = height;
            unreachable[top] = false;
        }

        void push(int type) {
            if (type == NONE) {
                return;
            }
            if (height >= operands.length) {
                wrong = true;
                return;
            }
            operands[height] = (byte) type;
            height++;
        }

        /** Pops an operand of the type (UNKNOWN: of any; NONE: no operand): the type, as far as it is known now. */
        int pop(int type) {
            if (type == NONE) {
                return NONE;
            }
            if (height <= floor[top]) {
                require(unreachable[top]);
                return type;
            }
            height--;
            int found = operands[height];
            require(found == type || found == UNKNOWN || type == UNKNOWN);
            return found == UNKNOWN ? type : found;
        }

        /** What comes next is never reached: it may pop whatever it likes. */
        void leave() {
            height = floor[top];
            unreachable[top] = true;
        }

        private void finishArm() {
            pop(result[top]);
            require(height == floor[top]);
        }

        void turnToElse() {
            finishArm();
            opener[top] = ELSE;
            unreachable[top] = false;
        }

        void close() {
            finishArm();
            // An if without an else has an empty else, which leaves no result.
            require(opener[top] != IF || result[top] == NONE);
            if (top > 0) {
                int type = result[top];
                top--;
                push(type);
            }
        }

        /** What a branch to a label takes along: nothing to the begin of a loop, else the result. */
        int typeOfLabel(int label) {
            if (label < 0 || label > top) {
                wrong = true;
                return NONE;
            }
            return opener[top - label] == LOOP ? NONE : result[top - label];
        }
    }

    /** Validation of a module that is neither malformed nor too large. */
    private static final class Validity {
        final Cursor cursor;
        final WasmModule module;
        final TypeStack stack;

        Validity(Cursor cursor, WasmModule module, TypeStack stack) {
            this.cursor = cursor;
            this.module = module;
            this.stack = stack;
        }

        boolean holds() {
            return module.tables.holds(MOST_UNSIGNED) && module.memories.holds(MOST_PAGES)
                    && typesHold() && globalsHold() && exportsHold() && startHolds()
                    && segmentsHold(module.elements, module.tables.count)
                    && segmentsHold(module.data, module.memories.count)
                    && bodiesHold();
        }

        private boolean typesHold() {
            for (int f = 0; module.functions.has(f) && f < MOST_FUNCTIONS; f++) {
                if (!module.types.has(module.functions.type[f])) {
                    return false;
                }
            }
            return true;
        }

        private boolean globalsHold() {
            Globals globals = module.globals;
            for (int g = globals.imported; globals.has(g) && g < MOST_GLOBALS; g++) {
                int opcode = globals.initialOpcode[g];
                if (!initialHolds(opcode, globals.initialValue[g], globals.type[g], globals.imported)) {
                    return false;
                }
            }
            return true;
        }

        /** Whether an INITIAL is of the type, where only so many of the globals may be used. */
        private boolean initialHolds(int opcode, long value, int type, int usable) {
            if (opcode != GLOBAL_GET) {
                return type == (opcode == I64_CONST ? I64 : I32);
            }
            int g = (int) value;
            return g < usable && module.globals.has(g) && !module.globals.mutable[g]
                    && module.globals.type[g] == type;
        }

        private boolean exportsHold() {
            Exports exports = module.exports;
            for (int e = 0; exports.has(e) && e < MOST_EXPORTS; e++) {
                if (exports.number[e] >= countOfSort(exports.sort[e])) {
                    return false;
                }
                for (int other = 0; other < e; other++) {
                    if (exports.sameName(e, other)) {
                        return false;
                    }
                }
            }
            return true;
        }

        private int countOfSort(int sort) {
            switch (sort) {
                case FUNCTION: return module.functions.count;
                case TABLE: return module.tables.count;
                case MEMORY: return module.memories.count;
                default: return module.globals.count;
            }
        }

        private boolean startHolds() {
            int start = module.start;
            Functions functions = module.functions;
            return start == NO_START
                    || functions.has(start) && functions.parameters[start] == 0 && functions.result[start] == NONE;
        }

        private boolean segmentsHold(Segments segments, int targets) {
            for (int n = 0; n < segments.count && n < MOST_SEGMENTS; n++) {
                // The specification keeps only the INITIALS of globals to imported ones: these may use all.
                if (segments.target[n] >= targets || segments.highest[n] >= module.functions.count
                        || !initialHolds(segments.offsetOpcode[n], segments.offsetValue[n], I32, MOST_GLOBALS)) {
                    return false;
                }
            }
            return true;
        }

        private boolean bodiesHold() {
            Functions functions = module.functions;
            for (int f = functions.imported; functions.has(f) && f < MOST_FUNCTIONS; f++) {
                stack.begin(functions.result[f]);
                cursor.span(functions.bodyStart[f], functions.bodyStart[f] + functions.bodyBytes[f]);
                for (int n = 0; n < ROW_BYTES && cursor.more() && !stack.wrong; n++) {
                    instruction(cursor.nextByte(), f);
                }
                if (stack.wrong) {
                    return false;
                }
            }
            return true;
        }

        private void instruction(int opcode, int f) {
            switch (opcode) {
                case NOP: break;
                case UNREACHABLE: stack.leave(); break;
                case BLOCK: case LOOP: stack.open(opcode, typeOfCode(cursor.nextByte())); break;
                case IF: ifBlock(); break;
                case ELSE: stack.turnToElse(); break;
                case END: stack.close(); break;
                case BR: branch(stack.typeOfLabel(cursor.index())); break;
                case BR_IF: branchIf(stack.typeOfLabel(cursor.index())); break;
                case BR_TABLE: branchTable(); break;
                case RETURN: branch(module.functions.result[f]); break;
                case CALL: call(cursor.index()); break;
                case CALL_INDIRECT: callIndirect(); break;
                case DROP: stack.pop(UNKNOWN); break;
                case SELECT: select(); break;
                case LOCAL_GET: case LOCAL_SET: case LOCAL_TEE: local(opcode, f, cursor.index()); break;
                case GLOBAL_GET: case GLOBAL_SET: globalAccess(opcode, cursor.index()); break;
                case MEMORY_SIZE: case MEMORY_GROW: memorySize(opcode); break;
                case I32_CONST: cursor.signed(32); stack.push(I32); break;
                case I64_CONST: cursor.signed(64); stack.push(I64); break;
                default:
                    if (isAccess(opcode)) {
                        access(opcode, opcode - FIRST_ACCESS);
                    } else {
                        numeric(numericRow(opcode));
                    }
                    break;
            }
        }

        private void ifBlock() {
            stack.pop(I32);
            stack.open(IF, typeOfCode(cursor.nextByte()));
        }

        private void branch(int type) {
            stack.pop(type);
            stack.leave();
        }

        private void branchIf(int type) {
            stack.pop(I32);
            stack.pop(type);
            stack.push(type);
        }

        private void branchTable() {
            stack.pop(I32);
            int labels = cursor.vector();
            int type = stack.typeOfLabel(cursor.index());
            for (int n = 0; n < labels && n < MOST_LABELS; n++) {
                stack.require(stack.typeOfLabel(cursor.index()) == type);
            }
            branch(type);
        }

        private void call(int f) {
            Functions functions = module.functions;
            if (!functions.has(f)) {
                stack.wrong = true;
                return;
            }
            callOfType(functions.type[f]);
        }

        private void callIndirect() {
            int type = cursor.index();
            cursor.expect(0);
            stack.require(module.tables.count > 0);
            stack.pop(I32);
            callOfType(type);
        }

        private void callOfType(int type) {
            Types types = module.types;
            if (!types.has(type)) {
                stack.wrong = true;
                return;
            }
            for (int k = types.parameters[type] - 1; k >= 0; k--) {
                stack.pop((types.longs[type] >> k & 1) == 1 ? I64 : I32);
            }
            stack.push(types.result[type]);
        }

        private void select() {
            stack.pop(I32);
            int type = stack.pop(UNKNOWN);
            stack.push(stack.pop(type));
        }

        private void local(int opcode, int f, int k) {
            stack.require(module.functions.hasLocal(f, k));
            int type = module.functions.typeOfLocal(f, k);
            if (opcode != LOCAL_GET) {
                stack.pop(type);
            }
            if (opcode != LOCAL_SET) {
                stack.push(type);
            }
        }

        private void globalAccess(int opcode, int g) {
            Globals globals = module.globals;
            if (!globals.has(g)) {
                stack.wrong = true;
            } else if (opcode == GLOBAL_GET) {
                stack.push(globals.type[g]);
            } else {
                stack.require(globals.mutable[g]);
                stack.pop(globals.type[g]);
            }
        }

        private void memorySize(int opcode) {
            cursor.expect(0);
            stack.require(module.memories.count > 0);
            if (opcode == MEMORY_GROW) {
                stack.pop(I32);
            }
            stack.push(I32);
        }

        private void numeric(int row) {
            if (row < 0) {
                stack.wrong = true;
                return;
            }
            for (int k = 0; k < NUMERIC[row + 2]; k++) {
                stack.pop(NUMERIC[row + 3]);
            }
            stack.push(NUMERIC[row + 4]);
        }

        private void access(int opcode, int k) {
            int alignment = cursor.index();
            cursor.unsigned();
            stack.require(module.memories.count > 0 && alignment <= ACCESS_ALIGNMENT[k]);
            if (opcode >= FIRST_STORE) {
                stack.pop(ACCESS_TYPE[k]);
                stack.pop(I32);
            } else {
                stack.pop(I32);
                stack.push(ACCESS_TYPE[k]);
            }
        }
    }
}
