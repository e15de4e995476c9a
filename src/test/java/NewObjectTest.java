/** Promise 1: a new object, which of several exceptions is thrown, and that a call that throws changes nothing. */
public final class NewObjectTest {
    private static final byte[] MODULE = Sections.functions(1, 1)
            .with(2, "02 00 00 00 00 00 00 03 7e 00").with(6, "01 7f 01 41 7f 0b")
            .with(7, "02 01 66 00 01 02 67 67 03 01").with(8, "01").bytes();

    public static void main(String[] args) {
        rowIsEmpty();
        noModule();
        objectsAreApart();
        firstNamedIsThrown();
        throwingWithoutModule();
        throwingWithModule();
        throwingWithFullRow();
        Check.finish("NewObjectTest");
    }

    private static void rowIsEmpty() {
        Check.same("end(0) of a new object", new WasmReader().end(0), 0);
        Check.same("end(1) of a new object", () -> new WasmReader().end(1), Check.ARGUMENT);
        Check.same("end(-1) of a new object", () -> new WasmReader().end(-1), Check.ARGUMENT);
        Check.same("feed of a new object", new WasmReader().feed(0, 0, 0, 0, 0), 20);
        Check.same("read of a new object", new WasmReader().read(), 1);
    }

    /** Every call that needs a MODULE, with arguments that would be right, and wrong ones of each kind. */
    private static void noModuleIn(String what, WasmReader reader) {
        for (int n : new int[] {0, 10, -1, 11, Check.LOW, Check.HIGH}) {
            Check.same(what + ": count(" + n + ")", () -> reader.count(n), Check.STATE);
            Check.same(what + ": initial(" + n + ")", () -> reader.initial(n), Check.STATE);
            for (int other : new int[] {0, -1, 10}) {
                Check.same(what + ": function", () -> reader.function(n, other), Check.STATE);
                Check.same(what + ": export", () -> reader.export(n, other), Check.STATE);
                Check.same(what + ": global", () -> reader.global(n, other), Check.STATE);
            }
        }
    }

    private static void noModule() {
        noModuleIn("a new object", new WasmReader());
        WasmReader fed = new WasmReader();
        Wasm.feed(fed, MODULE);
        noModuleIn("an object that was fed", fed);
        Check.same("and is then read", fed.read(), 0);
        Check.same("and has a module", fed.count(2), 2);
    }

    private static void objectsAreApart() {
        WasmReader one = Wasm.reader(MODULE);
        one.feed(1, 2, 3, 4, 5);
        WasmReader other = new WasmReader();
        noModuleIn("a second object", other);
        Check.same("the second object's row", other.feed(0, 0, 0, 0, 0), 20);
        Check.same("the second object's read", other.read(), 1);
        Check.same("the first object's row", one.feed(1, 2, 3, 4, 5), 40);
        Check.same("the first object's module", one.initial(1), -1);
    }

    private static void firstNamedIsThrown() {
        // Without a MODULE it is IllegalStateException, whatever else is wrong: noModule has all of these.
        WasmReader reader = Wasm.reader(MODULE);
        for (int there : new int[] {0, 1}) {
            for (int what : new int[] {-1, 9, 100}) {
                Check.same("function, others", () -> reader.function(there, what), Check.ARGUMENT);
                Check.same("export, others", () -> reader.export(there, what), Check.ARGUMENT);
                Check.same("global, others", () -> reader.global(there, what), Check.ARGUMENT);
            }
        }
        for (int notThere : new int[] {-1, 2, Check.LOW, Check.HIGH}) {
            for (int what : new int[] {-1, 0, 9, 100}) {
                Check.same("function, not there", () -> reader.function(notThere, what), Check.INDEX);
                Check.same("export, not there", () -> reader.export(notThere, what), Check.INDEX);
                Check.same("global, not there", () -> reader.global(notThere, what), Check.INDEX);
            }
        }
    }

    /** All that the object tells of its MODULE, in one text. */
    private static String told(WasmReader reader) {
        StringBuilder out = new StringBuilder();
        for (int what = 0; what <= 10; what++) {
            out.append(reader.count(what)).append(' ');
        }
        for (int n = 0; n < 2; n++) {
            for (int what = 0; what < 3; what++) {
                out.append(reader.function(n, what)).append(' ').append(reader.export(n, what)).append(' ');
                out.append(reader.global(n, what)).append(' ');
            }
            out.append(reader.function(n, 3)).append(' ').append(reader.export(n, 10)).append(' ');
            out.append(reader.initial(n)).append(' ');
        }
        return out.toString();
    }

    private static void refusedCalls(WasmReader reader, int length, boolean module) {
        for (int n : new int[] {-1, length + 1, Check.LOW, Check.HIGH}) {
            Check.same("end(" + n + ")", () -> reader.end(n), Check.ARGUMENT);
        }
        for (int n : new int[] {-1, 2}) {
            Check.same("initial", () -> reader.initial(n), module ? Check.INDEX : Check.STATE);
            Check.same("function", () -> reader.function(n, 0), module ? Check.INDEX : Check.STATE);
            Check.same("export", () -> reader.export(n, 0), module ? Check.INDEX : Check.STATE);
            Check.same("global", () -> reader.global(n, 0), module ? Check.INDEX : Check.STATE);
        }
        Check.same("count", () -> reader.count(11), module ? Check.ARGUMENT : Check.STATE);
        Check.same("function", () -> reader.function(0, 10), module ? Check.ARGUMENT : Check.STATE);
        Check.same("export", () -> reader.export(0, 11), module ? Check.ARGUMENT : Check.STATE);
        Check.same("global", () -> reader.global(0, 3), module ? Check.ARGUMENT : Check.STATE);
    }

    private static void throwingWithoutModule() {
        WasmReader reader = new WasmReader();
        refusedCalls(reader, 0, false);
        Check.same("the row is still empty", () -> reader.end(1), Check.ARGUMENT);
        Wasm.feed(reader, MODULE);
        refusedCalls(reader, MODULE.length, false);
        Check.same("the row has its length", reader.end(MODULE.length), MODULE.length);
        Check.same("and its bytes", reader.read(), 0);
        Check.same("what they tell", told(reader).equals(told(Wasm.reader(MODULE))) ? 1 : 0, 1);
    }

    private static void throwingWithModule() {
        WasmReader reader = Wasm.reader(MODULE);
        String before = told(reader);
        Wasm.feed(reader, MODULE);
        refusedCalls(reader, MODULE.length, true);
        Check.same("the module is as it was: " + before, told(reader).equals(before) ? 1 : 0, 1);
        Check.same("the row has its length", reader.end(MODULE.length), MODULE.length);
        Check.same("and its bytes", reader.read(), 0);
        refusedCalls(reader, 0, true);
        Check.same("the module is as it was, with no row", told(reader).equals(before) ? 1 : 0, 1);
        Check.same("the row is empty", reader.feed(0, 0, 0, 0, 0), 20);
    }

    private static void throwingWithFullRow() {
        WasmReader reader = Wasm.reader(MODULE);
        String before = told(reader);
        byte[] full = Wasm.bytes(MODULE, 0, Wasm.sized("00", new byte[4000 - MODULE.length - 4]));
        Check.same("a full row", full.length, 4000);
        Wasm.feed(reader, full);
        for (int n = 0; n < 3; n++) {
            Check.same("feed of a full row", () -> reader.feed(-1, -1, -1, -1, -1), Check.STATE);
        }
        Check.same("the module is as it was", told(reader).equals(before) ? 1 : 0, 1);
        Check.same("the row is full", reader.end(4000), 4000);
        Check.same("and has its bytes", reader.read(), 0);
        Check.same("which tell the same", told(reader).equals(before) ? 1 : 0, 1);
    }
}
