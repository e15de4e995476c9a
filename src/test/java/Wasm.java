import java.io.ByteArrayOutputStream;
import java.util.Arrays;

/** Builds the bytes of modules: a part is an int (one byte), a text (bytes in hex) or bytes. */
final class Wasm {
    static final String HEADER = "00 61 73 6d 01 00 00 00";

    private Wasm() {
    }

    static byte[] bytes(Object... parts) {
        ByteArrayOutputStream out = new ByteArrayOutputStream();
        for (Object part : parts) {
            if (part instanceof Integer) {
                out.write((Integer) part);
            } else if (part instanceof String) {
                for (String two : ((String) part).trim().split("\\s+")) {
                    if (!two.isEmpty()) {
                        out.write(Integer.parseInt(two, 16));
                    }
                }
            } else {
                out.writeBytes((byte[]) part);
            }
        }
        return out.toByteArray();
    }

    static byte[] unsigned(long value) {
        ByteArrayOutputStream out = new ByteArrayOutputStream();
        long left = value;
        while (left > 0x7f) {
            out.write((int) (left & 0x7f | 0x80));
            left >>>= 7;
        }
        out.write((int) left);
        return out.toByteArray();
    }

    static byte[] sized(Object... parts) {
        byte[] content = bytes(parts);
        return bytes(unsigned(content.length), content);
    }

    static byte[] section(int id, Object... parts) {
        return bytes(id, sized(parts));
    }

    static byte[] vector(Object... parts) {
        return bytes(unsigned(parts.length), bytes(parts));
    }

    static byte[] times(int many, Object part) {
        ByteArrayOutputStream out = new ByteArrayOutputStream();
        byte[] one = bytes(part);
        for (int n = 0; n < many; n++) {
            out.writeBytes(one);
        }
        return out.toByteArray();
    }

    /** A vector of the same part many times. */
    static byte[] many(int many, Object part) {
        return bytes(unsigned(many), times(many, part));
    }

    static byte[] name(String text) {
        byte[] out = new byte[text.length()];
        for (int k = 0; k < out.length; k++) {
            out[k] = (byte) text.charAt(k);
        }
        return sized(out);
    }

    static byte[] module(Object... sections) {
        return bytes(HEADER, bytes(sections));
    }

    /** A module of one function, of the type, locals and instructions, behind sections between 3 and 10. */
    static byte[] body(Object type, Object locals, Object instructions, Object... between) {
        return module(
                section(1, "01 60", type), section(3, "01 00"), bytes(between),
                section(10, "01", sized(locals, instructions)));
    }

    /** A function of no parameters and no result, no locals. */
    static byte[] body(Object instructions) {
        return body("00 00", "00", instructions);
    }

    static int word(byte[] row, int at) {
        int word = 0;
        for (int k = at; k < at + 4; k++) {
            word = word << 8 | (k < row.length ? row[k] & 0xff : 0);
        }
        return word;
    }

    static void feed(WasmReader reader, byte[] row) {
        for (int at = 0; at < row.length; at += 20) {
            reader.feed(word(row, at), word(row, at + 4), word(row, at + 8), word(row, at + 12), word(row, at + 16));
        }
        reader.end(row.length);
    }

    static int read(WasmReader reader, byte[] row) {
        feed(reader, row);
        return reader.read();
    }

    /** What a new object answers to a read of the bytes. */
    static int read(byte[] row) {
        return read(new WasmReader(), row);
    }

    static WasmReader reader(byte[] row) {
        WasmReader reader = new WasmReader();
        if (read(reader, row) != 0) {
            throw new AssertionError("not read: " + hex(row));
        }
        return reader;
    }

    static void reads(String what, byte[] row, int due) {
        Check.same(what + " [" + hex(row) + "]", read(row), due);
    }

    /** The bytes in hex, cut where they would fill the screen. */
    static String hex(byte[] row) {
        return row.length > 120 ? hexAll(Arrays.copyOf(row, 120)) + " .." : hexAll(row);
    }

    static String hexAll(byte[] row) {
        StringBuilder out = new StringBuilder();
        for (byte one : row) {
            out.append(String.format("%02x ", one & 0xff));
        }
        return out.toString().trim();
    }
}
