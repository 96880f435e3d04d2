import java.io.DataInputStream;
import java.io.IOException;
import java.io.InputStream;
import java.nio.ByteBuffer;
import java.util.ArrayList;
import java.util.LinkedHashMap;
import java.util.List;
import java.util.Map;

/** A compiled class, as far as the tests look into it: its methods' instructions and what they call. */
final class ClassFile {
    static final int NEW = 0xBB;
    static final int MULTI_ARRAY = 0xC5;
    private static final int TABLE_SWITCH = 0xAA;
    private static final int LOOKUP_SWITCH = 0xAB;
    private static final int WIDE = 0xC4;
    private static final int IINC = 0x84;
    private static final int FIRST_INVOKE = 0xB6;
    private static final int LAST_INVOKE = 0xB9;

    /** Of one method: its instructions' codes, the methods it calls, and how many handlers it has. */
    record Code(List<Integer> instructions, List<String> calls, int handlers) { }

    final Map<String, Code> methods = new LinkedHashMap<>();
    private final Object[] pool;
    private final String name;

    ClassFile(Class<?> type) throws IOException {
        String full = type.getName();
        try (InputStream stream = type.getResourceAsStream(full + ".class")) {
            DataInputStream in = new DataInputStream(stream);
            in.skipBytes(8);
            pool = readPool(in);
            in.skipBytes(2);
            name = text((int) pool[in.readUnsignedShort()]);
            in.skipBytes(2);
            in.skipBytes(2 * in.readUnsignedShort());
            for (int fields = in.readUnsignedShort(); fields > 0; fields--) {
                in.skipBytes(6);
                readCode(in);
            }
            for (int left = in.readUnsignedShort(); left > 0; left--) {
                in.skipBytes(2);
                String method = text(in.readUnsignedShort());
                String kind = text(in.readUnsignedShort());
                Code code = readCode(in);
                methods.put(name + "." + method + kind, code);
            }
        }
    }

    private static Object[] readPool(DataInputStream in) throws IOException {
        Object[] entries = new Object[in.readUnsignedShort()];
        for (int i = 1; i < entries.length; i++) {
            int tag = in.readUnsignedByte();
            switch (tag) {
                case 1 -> entries[i] = in.readUTF();
                case 3, 4 -> in.readInt();
                case 5, 6 -> {
                    in.readLong();
                    i++;
                }
                case 7, 8, 16, 19, 20 -> entries[i] = in.readUnsignedShort();
                case 15 -> in.skipBytes(3);
                default -> entries[i] = new int[] {in.readUnsignedShort(), in.readUnsignedShort()};
            }
        }
        return entries;
    }

    private String text(int index) {
        return (String) pool[index];
    }

    /** The code among a member's attributes; null if it has none. */
    private Code readCode(DataInputStream in) throws IOException {
        Code code = null;
        for (int left = in.readUnsignedShort(); left > 0; left--) {
            String attribute = text(in.readUnsignedShort());
            byte[] bytes = new byte[in.readInt()];
            in.readFully(bytes);
            if (attribute.equals("Code")) {
                ByteBuffer buffer = ByteBuffer.wrap(bytes);
                int size = buffer.getInt(4);
                code = walk(ByteBuffer.wrap(bytes, 8, size).slice(), buffer.getShort(8 + size));
            }
        }
        return code;
    }

    private Code walk(ByteBuffer code, int handlers) {
        List<Integer> instructions = new ArrayList<>();
        List<String> calls = new ArrayList<>();
        int at = 0;
        while (at < code.limit()) {
            int op = code.get(at) & 255;
            instructions.add(op);
            if (op >= FIRST_INVOKE && op <= LAST_INVOKE) {
                int[] ref = (int[]) pool[code.getShort(at + 1) & 0xFFFF];
                int[] called = (int[]) pool[ref[1]];
                calls.add(text((int) pool[ref[0]]) + "." + text(called[0]) + text(called[1]));
            }
            at += sizeAt(code, at, op);
        }
        return new Code(instructions, calls, handlers);
    }

    private static int sizeAt(ByteBuffer code, int at, int op) {
        int table = at + 4 - at % 4;
        switch (op) {
            case TABLE_SWITCH:
                return table - at + 12 + 4 * (code.getInt(table + 8) - code.getInt(table + 4) + 1);
            case LOOKUP_SWITCH:
                return table - at + 8 + 8 * code.getInt(table + 4);
            case WIDE:
                return (code.get(at + 1) & 255) == IINC ? 6 : 4;
            default:
                return 1 + operands(op);
        }
    }

    private static int operands(int op) {
        boolean one = op == 0x10 || op == 0x12 || op >= 0x15 && op <= 0x19 || op >= 0x36 && op <= 0x3A || op == 0xA9
            || op == 0xBC;
        boolean two = op == 0x11 || op == 0x13 || op == 0x14 || op == IINC || op >= 0x99 && op <= 0xA8
            || op >= 0xB2 && op <= 0xB8 || op == NEW || op == 0xBD || op == 0xC0 || op == 0xC1 || op == 0xC6 || op == 0xC7;
        if (one || two) {
            return one ? 1 : 2;
        }
        return op == MULTI_ARRAY ? 3 : op == 0xB9 || op == 0xBA || op == 0xC8 || op == 0xC9 ? 4 : 0;
    }
}
