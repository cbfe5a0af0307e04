import java.io.ByteArrayInputStream;
import java.io.DataInputStream;
import java.io.File;
import java.io.FileInputStream;
import java.io.IOException;
import java.util.ArrayList;
import java.util.List;
import java.util.Map;
import java.util.Set;
import java.util.TreeMap;
import java.util.TreeSet;

/** One compiled class of the program, read by hand, so that the tests need nothing but javac and java. */
final class TossGroundClassFile {
    private static final int UTF8 = 1;
    private static final int FIELD = 9;
    private static final int LAST_MEMBER = 11;
    private static final int DYNAMIC = 17;
    private static final int INVOKE_DYNAMIC = 18;
    private static final int PRIVATE = 2;

    final String file;
    final String name;
    /** The class above, or null. */
    final String above;
    /** Members that the pool names, as owner.name. */
    final List<String> members = new ArrayList<>();
    boolean dynamic = false;
    /** Each method's name with the owner.name of all that it calls. */
    final Map<String, Set<String>> calls = new TreeMap<>();
    final Set<String> hidden = new TreeSet<>();

    private int[] tags;
    private int[] first;
    private int[] second;
    private String[] texts;

    TossGroundClassFile(File from) throws IOException {
        file = from.getName();
        try (DataInputStream in = new DataInputStream(new FileInputStream(from))) {
            in.skipBytes(8);
            readPool(in);
            in.readUnsignedShort();
            name = classAt(in.readUnsignedShort());
            int top = in.readUnsignedShort();
            above = top == 0 ? null : classAt(top);
            skipShorts(in, in.readUnsignedShort());
            readMembers(in, false);
            readMembers(in, true);
        }
    }

    /** The program's class and those inside it, where they were compiled to. */
    static List<TossGroundClassFile> all() throws Exception {
        File dir = new File(TossGround.class.getProtectionDomain().getCodeSource().getLocation().toURI());
        List<TossGroundClassFile> list = new ArrayList<>();
        File[] files = dir.listFiles((d, name) -> name.equals("TossGround.class") || name.startsWith("TossGround$"));
        if (files != null) for (File f : files) list.add(new TossGroundClassFile(f));
        return list;
    }

    private void readPool(DataInputStream in) throws IOException {
        int n = in.readUnsignedShort();
        tags = new int[n];
        first = new int[n];
        second = new int[n];
        texts = new String[n];
        for (int i = 1; i < n; i++) {
            tags[i] = in.readUnsignedByte();
            switch (tags[i]) {
                case UTF8: texts[i] = in.readUTF(); break;
                case 3: case 4: in.readInt(); break;
                case 5: case 6: in.readLong(); i++; break;
                case 7: case 8: case 16: case 19: case 20: first[i] = in.readUnsignedShort(); break;
                case 15: in.readUnsignedByte(); in.readUnsignedShort(); break;
                default:
                    first[i] = in.readUnsignedShort();
                    second[i] = in.readUnsignedShort();
            }
        }
        for (int i = 1; i < n; i++) {
            dynamic |= tags[i] == DYNAMIC || tags[i] == INVOKE_DYNAMIC;
            if (tags[i] >= FIELD && tags[i] <= LAST_MEMBER) members.add(memberAt(i));
        }
    }

    private String classAt(int index) {
        return texts[first[index]];
    }

    private String memberAt(int index) {
        return classAt(first[index]) + "." + texts[first[second[index]]];
    }

    private static void skipShorts(DataInputStream in, int n) throws IOException {
        for (int i = 0; i < n; i++) in.readUnsignedShort();
    }

    /** Fields and methods are written alike; only methods have code. */
    private void readMembers(DataInputStream in, boolean methods) throws IOException {
        int n = in.readUnsignedShort();
        for (int i = 0; i < n; i++) {
            int access = in.readUnsignedShort();
            String member = texts[in.readUnsignedShort()];
            in.readUnsignedShort();
            if (methods) calls.putIfAbsent(member, new TreeSet<>());
            if (methods && (access & PRIVATE) != 0) hidden.add(member);
            int attributes = in.readUnsignedShort();
            for (int a = 0; a < attributes; a++) {
                String attribute = texts[in.readUnsignedShort()];
                byte[] bytes = new byte[in.readInt()];
                in.readFully(bytes);
                if (attribute.equals("Code")) readCode(bytes, calls.get(member));
            }
        }
    }

    private void readCode(byte[] attribute, Set<String> called) throws IOException {
        DataInputStream in = new DataInputStream(new ByteArrayInputStream(attribute));
        in.readInt();
        int length = in.readInt();
        while (attribute.length - in.available() < 8 + length) {
            int at = attribute.length - in.available() - 8;
            int op = in.readUnsignedByte();
            if (op == 0xaa || op == 0xab) {
                skipSwitch(in, at, op == 0xaa);
            } else if (op >= 0xb6 && op <= 0xb9) {
                called.add(memberAt(in.readUnsignedShort()));
                in.skipBytes(op == 0xb9 ? 2 : 0);
            } else if (op == 0xc4) {
                in.skipBytes(in.readUnsignedByte() == 0x84 ? 4 : 2);
            } else {
                in.skipBytes(bytesBehind(op));
            }
        }
    }

    private static void skipSwitch(DataInputStream in, int at, boolean table) throws IOException {
        in.skipBytes(3 - at % 4);
        in.readInt();
        int low = in.readInt();
        in.skipBytes(table ? 4 * (in.readInt() - low + 1) : 8 * low);
    }

    /** How many bytes an instruction has behind its first one, as the machine's book tells. */
    private static int bytesBehind(int op) {
        if (op == 0xba || op == 0xc8 || op == 0xc9) return 4;
        if (op == 0xc5) return 3;
        if (op == 0x11 || op == 0x13 || op == 0x14 || op == 0x84) return 2;
        if (op >= 0x99 && op <= 0xa8 || op >= 0xb2 && op <= 0xb5) return 2;
        if (op == 0xbb || op == 0xbd || op == 0xc0 || op == 0xc1 || op == 0xc6 || op == 0xc7) return 2;
        if (op == 0x10 || op == 0x12 || op == 0xa9 || op == 0xbc) return 1;
        return op >= 0x15 && op <= 0x19 || op >= 0x36 && op <= 0x3a ? 1 : 0;
    }
}
