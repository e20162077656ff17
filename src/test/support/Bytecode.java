import java.io.ByteArrayInputStream;
import java.io.DataInputStream;
import java.io.IOException;
import java.io.InputStream;
import java.util.ArrayList;
import java.util.List;
import java.util.Map;
import java.util.TreeMap;
import java.util.TreeSet;

/** What the methods of a compiled class call, and which instructions they have. */
final class Bytecode {
    private static final int THROW = 0xbf;
    private static final int LOCK = 0xc2;
    private static final int DYNAMIC = 0xba;

    /** By "Class.method(descriptor)": what that one calls, written in the same way. */
    final Map<String, TreeSet<String>> calls = new TreeMap<>();
    /** Methods that throw, catch, lock, or are made at run time. */
    final List<String> forbidden = new ArrayList<>();
    private String owner = "";
    private int[] tags;
    private int[] first;
    private int[] second;
    private String[] texts;

    void read(Class<?> c) throws IOException {
        owner = c.getName();
        try (InputStream file = c.getResourceAsStream(owner + ".class");
                DataInputStream in = new DataInputStream(file)) {
            in.skipBytes(8);
            readPool(in);
            in.skipBytes(6);
            in.skipBytes(2 * in.readUnsignedShort());
            readMembers(in);
            readMembers(in);
        }
    }

    private void readPool(DataInputStream in) throws IOException {
        int size = in.readUnsignedShort();
        tags = new int[size];
        first = new int[size];
        second = new int[size];
        texts = new String[size];
        for (int i = 1; i < size; i++) {
            tags[i] = in.readUnsignedByte();
            switch (tags[i]) {
                case 1: texts[i] = in.readUTF(); break;
                case 3: case 4: in.skipBytes(4); break;
                case 5: case 6: in.skipBytes(8); i++; break;
                case 7: case 8: case 16: case 19: case 20: first[i] = in.readUnsignedShort(); break;
                case 15: in.skipBytes(3); break;
                default: first[i] = in.readUnsignedShort(); second[i] = in.readUnsignedShort();
            }
        }
    }

    private void readMembers(DataInputStream in) throws IOException {
        int count = in.readUnsignedShort();
        for (int i = 0; i < count; i++) {
            in.skipBytes(2);
            String name = owner + "." + texts[in.readUnsignedShort()] + texts[in.readUnsignedShort()];
            int attributes = in.readUnsignedShort();
            for (int k = 0; k < attributes; k++) {
                String kind = texts[in.readUnsignedShort()];
                byte[] bytes = new byte[in.readInt()];
                in.readFully(bytes);
                if (kind.equals("Code")) readCode(name, bytes);
            }
        }
    }

    private void readCode(String method, byte[] attribute) throws IOException {
        DataInputStream in = new DataInputStream(new ByteArrayInputStream(attribute));
        in.skipBytes(4);
        byte[] code = new byte[in.readInt()];
        in.readFully(code);
        if (in.readUnsignedShort() > 0) forbidden.add(method + " catches");
        TreeSet<String> called = calls.computeIfAbsent(method, m -> new TreeSet<>());
        for (int at = 0; at < code.length; at += lengthOf(code, at)) {
            int op = code[at] & 255;
            if (op == THROW) forbidden.add(method + " throws");
            if (op == LOCK) forbidden.add(method + " locks");
            if (op == DYNAMIC) forbidden.add(method + " calls what is made at run time");
            if (op >= 0xb6 && op <= 0xb9) called.add(methodAt(two(code, at + 1)));
        }
    }

    private String methodAt(int index) {
        String of = texts[first[first[index]]].replace('/', '.');
        int nameAndType = second[index];
        return of + "." + texts[first[nameAndType]] + texts[second[nameAndType]];
    }

    private static int two(byte[] code, int at) {
        return (code[at] & 255) << 8 | code[at + 1] & 255;
    }

    private static int four(byte[] code, int at) {
        return two(code, at) << 16 | two(code, at + 2);
    }

    private static int lengthOf(byte[] code, int at) {
        int op = code[at] & 255;
        int aligned = (at + 4) / 4 * 4;
        if (op == 0xaa) return aligned + 12 + 4 * (four(code, aligned + 8) - four(code, aligned + 4) + 1) - at;
        if (op == 0xab) return aligned + 8 + 8 * four(code, aligned + 4) - at;
        if (op == 0xc4) return (code[at + 1] & 255) == 0x84 ? 6 : 4;
        if (op == 0xb9 || op == DYNAMIC || op >= 0xc8) return 5;
        if (op == 0xc5) return 4;
        boolean isThree = op == 0x11 || op == 0x13 || op == 0x14 || op == 0x84 || op >= 0x99 && op <= 0xa8
                || op >= 0xb2 && op <= 0xb8 || op == 0xbb || op == 0xbd || op == 0xc0 || op == 0xc1 || op >= 0xc6;
        if (isThree) return 3;
        boolean isTwo = op == 0x10 || op == 0x12 || op >= 0x15 && op <= 0x19 || op >= 0x36 && op <= 0x3a
                || op == 0xa9 || op == 0xbc;
        return isTwo ? 2 : 1;
    }
}
