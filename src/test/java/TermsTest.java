/** "Terms", but for the limits: what a MODULE may consist of, at its edges, and which FAULT comes first. */
public final class TermsTest {
    private static final String[] SECTIONS = {
        "", "01 60 00 00", "01 00 00 03 7f 00", "01 00", "01 70 00 01", "01 00 01", "01 7f 00 41 00 0b",
        "01 00 00 00", "00", "01 00 41 00 0b 01 00", "01 02 00 0b", "01 00 41 00 0b 01 ff"};

    public static void main(String[] args) {
        parameters();
        results();
        sectionsAndCustomOnes();
        namesAreAnyBytes();
        initials();
        notOfThis();
        orderOfFaults();
        Check.finish("TermsTest");
    }

    private static void reads(String what, Sections module, int due) {
        Wasm.reads(what, module.bytes(), due);
    }

    private static void parameters() {
        for (int many : new int[] {0, 1, 5, 6, 7, 8, 127, 128, 256, 262}) {
            int due = many <= 6 ? 0 : 1;
            for (String type : new String[] {"7f", "7e"}) {
                byte[] form = Wasm.bytes("60", Wasm.many(many, type));
                reads(many + " parameters", Sections.none().with(1, "01", form, "00"), due);
                reads(many + " parameters and a result", Sections.none().with(1, "01", form, "01 7e"), due);
                reads(many + " parameters of the second type", Sections.none().with(1, "02 60 00 00", form, "00"), due);
                reads(many + " parameters of the 41st type", Sections.none().with(1,
                        "29", Wasm.times(40, "60 00 00"), form, "00"), due == 1 ? 1 : 3);
                reads(many + " parameters, and not valid",
                        Sections.none().with(1, "01", form, "00").with(8, "7f"), due == 1 ? 1 : 2);
            }
        }
        WasmReader six = Wasm.reader(Sections.none().with(1, "01 60 06 7f 7e 7f 7e 7f 7e 00")
                .with(2, "01 00 00 00 00").bytes());
        Check.same("six parameters", six.function(0, 0), 6);
    }

    private static void results() {
        for (int many : new int[] {0, 1, 2, 3, 127, 128, 256, 257}) {
            int due = many <= 1 ? 0 : 1;
            for (String type : new String[] {"7f", "7e"}) {
                byte[] given = Wasm.many(many, type);
                reads(many + " results", Sections.none().with(1, "01 60 00", given), due);
                reads(many + " results of six parameters", Sections.none().with(1,
                        "01 60 06 7f 7f 7f 7f 7f 7f", given), due);
                reads(many + " results of the 41st type", Sections.none().with(1,
                        "29", Wasm.times(40, "60 00 00"), "60 00", given), due == 1 ? 1 : 3);
                reads(many + " results, and not valid",
                        Sections.none().with(1, "01 60 00", given).with(8, "7f"), due == 1 ? 1 : 2);
            }
        }
    }

    /** All eleven sections, with custom ones before one of them, or behind them all (12). */
    private static byte[] allWith(Object custom, int place) {
        byte[] row = Wasm.module();
        for (int id = 1; id <= 12; id++) {
            row = Wasm.bytes(row, id == place ? custom : "", id < 12 ? Wasm.section(id, SECTIONS[id]) : "");
        }
        return row;
    }

    private static void sectionsAndCustomOnes() {
        Wasm.reads("all sections", allWith("", 12), 0);
        byte[] custom = Wasm.section(0, Wasm.many(30, "61"), "ff 00");
        for (int place = 1; place <= 12; place++) {
            Wasm.reads("a custom section before " + place, allWith(custom, place), 0);
            Wasm.reads("two custom sections before " + place, allWith(Wasm.times(2, custom), place), 0);
            Wasm.reads("a custom section of no name before " + place, allWith("00 00", place), 1);
            Wasm.reads("a custom section of an empty name before " + place, allWith("00 01 00", place), 0);
            Wasm.reads("a custom name that fills it before " + place, allWith("00 03 02 61 62", place), 0);
            Wasm.reads("a custom name too long by one before " + place, allWith("00 03 03 61 62", place), 1);
        }
    }

    private static void namesAreAnyBytes() {
        for (int one = 0; one < 256; one++) {
            byte[] name = Wasm.bytes("02", one, one);
            reads("a custom name of " + one, Sections.none().before(Wasm.section(0, name)), 0);
            Sections imports = Sections.none().with(2, "01", name, name, "03 7f 00");
            reads("an import's names of " + one, imports, 0);
            WasmReader reader = Wasm.reader(imports.with(7, "01", name, "03 00").bytes());
            Check.same("a byte of an export's name", reader.export(0, 10), one);
            Check.same("the next byte of it", reader.export(0, 11), one);
        }
    }

    private static void initials() {
        String[] good = {"41 00 0b", "42 00 0b", "23 00 0b", "23 01 0b"};
        Sections head = Sections.none().with(2, "02 00 00 03 7f 00 00 00 03 7e 00")
                .with(4, "01 70 00 00").with(5, "01 00 00");
        for (int n = 0; n < good.length; n++) {
            boolean isI32 = n % 2 == 0;
            reads("an i32 of " + good[n], head.with(6, "01 7f 00", good[n]), isI32 ? 0 : 2);
            reads("an i64 of " + good[n], head.with(6, "01 7e 00", good[n]), isI32 ? 2 : 0);
            reads("an element at " + good[n], head.with(9, "01 00", good[n], "00"), isI32 ? 0 : 2);
            reads("data at " + good[n], head.with(11, "01 00", good[n], "00"), isI32 ? 0 : 2);
        }
        String[] bad = {"0b", "01 41 00 0b", "41 00 01 0b", "41 00 41 00 0b", "41 00 1a 41 00 0b", "41 00 41 00 6a 0b",
            "20 00 0b", "00 0b", "02 7f 41 00 0b 0b", "41 00", "41 0b", "23 0b", "10 00 0b", "3f 00 0b",
            "43 00 00 00 00 0b"};
        for (String one : bad) {
            reads("a global of " + one, head.with(6, "01 7f 00", one), 1);
            reads("an element at " + one, head.with(9, "01 00", one, "00"), 1);
            reads("data at " + one, head.with(11, "01 00", one, "00"), 1);
        }
    }

    /** What the specification has later, or has besides, is malformed: "also what is not of this". */
    private static void notOfThis() {
        for (String type : new String[] {"7d", "7c", "7b", "70", "6f", "40", "80", "00"}) {
            reads("a parameter of " + type, Sections.none().with(1, "01 60 01", type, "00"), 1);
            reads("a result of " + type, Sections.none().with(1, "01 60 00 01", type), 1);
            reads("an imported global of " + type, Sections.none().with(2, "01 00 00 03", type, "00"), 1);
            reads("a local of " + type, Sections.body("00 00", Wasm.bytes("01 01", type), "0b"), 1);
            reads("no local of " + type, Sections.body("00 00", Wasm.bytes("01 00", type), "0b"), 1);
        }
        String[] bodies = {"43 00 00 00 00 1a 0b", "44 00 00 00 00 00 00 00 00 1a 0b", "41 00 c0 1a 0b",
            "42 00 c4 1a 0b", "41 00 a8 1a 0b", "42 00 a9 1a 0b", "41 00 ab 1a 0b", "41 00 ae 1a 0b",
            "41 00 be 1a 0b", "fc 08 00 00 0b", "25 00 1a 0b", "06 40 0b 0b", "12 00 0b", "1c 01 7f 0b", "d0 70 1a 0b"};
        for (String body : bodies) {
            reads("a body of " + body, Sections.body("00 00", "00", body).with(5, "01 00 00"), 1);
            reads("a body of " + body + ", never reached", Sections.body("00 00", "00", "00 " + body), 1);
        }
        reads("a section of how many data there are",
                Sections.data(1).before(Wasm.section(12, "01")), 1);
        reads("a memory that is shared", Sections.none().with(5, "01 03 01 01"), 1);
    }

    private static void orderOfFaults() {
        Object[] too = {"", "", Wasm.bytes("01 00", Wasm.many(21, "61"), "03 7f 00"), "", "01 70 00 c9 01", "01 00 03"};
        Sections good = Sections.none().with(1, Sections.EMPTY_TYPE).with(3, "01 00").with(10, "01 02 00 0b");
        Sections wrongBody = good.with(10, "01 03 00 1a 0b");
        Sections malformedBody = good.with(10, "01 03 00 06 0b");
        reads("none", good, 0);
        reads("not valid", wrongBody, 2);
        reads("malformed", malformedBody, 1);
        for (int id : new int[] {2, 4, 5}) {
            reads("too large in " + id, good.with(id, too[id]), 3);
            reads("too large in " + id + ", not valid behind", wrongBody.with(id, too[id]), 3);
            reads("too large in " + id + ", malformed behind", malformedBody.with(id, too[id]), 1);
            reads("too large in " + id + ", not valid before", good.with(2, "01 00 00 00 05").with(id, too[id])
                    .with(7, "01 00 03 05"), 3);
        }
        Sections manyData = wrongBody.with(5, "01 00 00").with(11, Wasm.many(21, "00 41 00 0b 00"));
        reads("not valid, too large behind", manyData, 3);
        reads("not valid, 20 data behind", manyData.with(11, Wasm.many(20, "00 41 00 0b 00")), 2);
        reads("not valid, too large and malformed behind", manyData.behind("00"), 1);
        reads("not valid, malformed behind", wrongBody.behind("00"), 1);
        reads("malformed, not valid behind", good.with(1, "01 61 00 00").with(7, "01 00 03 05"), 1);
        reads("malformed, too large behind", good.with(1, "01 61 00 00").with(5, "01 00 03"), 1);
        reads("all three in one body, malformed last", Sections.body("00 00", "01 1f 7f", "1a 06 0b"), 1);
        reads("two in one body", Sections.body("00 00", "01 1f 7f", "1a 0b"), 3);
        reads("one in one body", Sections.body("00 00", "01 1e 7f", "1a 0b"), 2);
    }
}
