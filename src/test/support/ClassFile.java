import java.io.DataInputStream;
import java.io.IOException;
import java.io.InputStream;
import java.util.LinkedHashMap;
import java.util.LinkedHashSet;
import java.util.Map;
import java.util.Set;

/** A compiled class: which methods each of its methods calls, told as "Owner.name". */
final class ClassFile {
    private static final int UTF8 = 1;
    private static final int LONG = 5;
    private static final int DOUBLE = 6;
    private static final int CLASS = 7;
    private static final int STRING = 8;
    private static final int NAME_AND_TYPE = 12;
    private static final int METHOD_HANDLE = 15;
    private static final int METHOD_TYPE = 16;

    private static final int TABLE_SWITCH = 0xaa;
    private static final int LOOKUP_SWITCH = 0xab;
    private static final int FIRST_INVOKE = 0xb6;
    private static final int INVOKE_DYNAMIC = 0xba;
    private static final int WIDE = 0xc4;
    private static final int IINC = 0x84;

    // How many bytes follow each instruction, in order; 9 is a switch or wide.
    private static final String OPERANDS = "0".repeat(16) + "1212211111" + "0".repeat(28) + "11111" + "0".repeat(73)
            + "2" + "0".repeat(20) + "2".repeat(16) + "199" + "0".repeat(6) + "2".repeat(7) + "44212002200932244";

    private final int[] tags;
    private final String[] texts;
    private final int[] firsts;
    private final int[] seconds;
    final Map<String, Set<String>> calls = new LinkedHashMap<>();

    ClassFile(String name) throws IOException {
        try (InputStream file = ClassFile.class.getResourceAsStream("/" + name + ".class");
                DataInputStream in = new DataInputStream(file)) {
            in.readInt();
            in.readInt();
            int count = in.readUnsignedShort();
            tags = new int[count];
            texts = new String[count];
            firsts = new int[count];
            seconds = new int[count];
            readPool(in);
            in.readUnsignedShort();
            String own = className(in.readUnsignedShort());
            in.readUnsignedShort();
            in.skipBytes(2 * in.readUnsignedShort());
            readMembers(in, own);
            readMembers(in, own);
        }
    }

    private void readPool(DataInputStream in) throws IOException {
        for (int k = 1; k < tags.length; k++) {
            tags[k] = in.readUnsignedByte();
            if (tags[k] == UTF8) {
                texts[k] = in.readUTF();
            } else if (tags[k] == LONG || tags[k] == DOUBLE) {
                in.readLong();
                k++;
            } else if (tags[k] == CLASS || tags[k] == STRING || tags[k] == METHOD_TYPE || tags[k] > 18) {
                firsts[k] = in.readUnsignedShort();
            } else if (tags[k] == METHOD_HANDLE) {
                firsts[k] = in.readUnsignedByte();
                seconds[k] = in.readUnsignedShort();
            } else if (tags[k] > DOUBLE) {
                firsts[k] = in.readUnsignedShort();
                seconds[k] = in.readUnsignedShort();
            } else {
                in.readInt();
            }
        }
    }

    private String className(int at) {
        return texts[firsts[at]];
    }

    /** Fields, or methods: these have code. */
    private void readMembers(DataInputStream in, String own) throws IOException {
        int members = in.readUnsignedShort();
        for (int m = 0; m < members; m++) {
            in.readUnsignedShort();
            String name = own + "." + texts[in.readUnsignedShort()];
            in.readUnsignedShort();
            int attributes = in.readUnsignedShort();
            for (int a = 0; a < attributes; a++) {
                String what = texts[in.readUnsignedShort()];
                byte[] body = new byte[in.readInt()];
                in.readFully(body);
                if (what.equals("Code")) {
                    readCode(body, calls.computeIfAbsent(name, n -> new LinkedHashSet<>()));
                }
            }
        }
    }

    private void readCode(byte[] body, Set<String> into) {
        int begin = 8;
        int end = begin + four(body, 4);
        for (int at = begin; at < end;) {
            int code = body[at] & 255;
            if (code >= FIRST_INVOKE && code < INVOKE_DYNAMIC) {
                int method = (body[at + 1] & 255) << 8 | body[at + 2] & 255;
                into.add(className(firsts[method]) + "." + texts[firsts[seconds[method]]]);
            } else if (code == INVOKE_DYNAMIC) {
                into.add("invokedynamic");
            }
            at += 1 + operands(body, at, begin);
        }
    }

    private static int operands(byte[] body, int at, int begin) {
        int code = body[at] & 255;
        if (code == WIDE) {
            return (body[at + 1] & 255) == IINC ? 5 : 3;
        }
        int pad = 3 - (at - begin) % 4;
        int table = at + 1 + pad;
        if (code == TABLE_SWITCH) {
            return pad + 12 + 4 * (four(body, table + 8) - four(body, table + 4) + 1);
        }
        if (code == LOOKUP_SWITCH) {
            return pad + 8 + 8 * four(body, table + 4);
        }
        return OPERANDS.charAt(code) - '0';
    }

    private static int four(byte[] body, int at) {
        return (body[at] & 255) << 24 | (body[at + 1] & 255) << 16 | (body[at + 2] & 255) << 8 | body[at + 3] & 255;
    }
}
