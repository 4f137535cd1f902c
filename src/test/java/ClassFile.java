import java.io.DataInputStream;
import java.io.IOException;
import java.io.InputStream;
import java.util.TreeSet;

/** The names that a compiled class uses, read off its constant pool. */
final class ClassFile {
    private static final int TEXT = 1, LONG = 5, DOUBLE = 6, CLASS = 7, STRING = 8, FIELD = 9, METHOD = 10;
    private static final int INTERFACE_METHOD = 11, HANDLE = 15, METHOD_TYPE = 16, MODULE = 19, PACKAGE = 20;

    private final String[] texts;
    private final int[] tags;
    /** Of each entry the two numbers of others that it names, if it names any. */
    private final int[] ones;
    private final int[] others;

    private ClassFile(DataInputStream in) throws IOException {
        in.skipBytes(8);
        int size = in.readUnsignedShort();
        texts = new String[size];
        tags = new int[size];
        ones = new int[size];
        others = new int[size];
        for (int i = 1; i < size; i++) {
            tags[i] = in.readUnsignedByte();
            switch (tags[i]) {
                case TEXT: texts[i] = in.readUTF(); break;
                case CLASS: case STRING: case METHOD_TYPE: case MODULE: case PACKAGE: ones[i] = in.readUnsignedShort(); break;
                case HANDLE: in.skipBytes(3); break;
                case LONG: case DOUBLE: in.skipBytes(8); i++; break;
                default:
                    ones[i] = in.readUnsignedShort();
                    others[i] = in.readUnsignedShort();
            }
        }
    }

    static ClassFile of(Class<?> one) throws IOException {
        try (InputStream file = one.getResourceAsStream(one.getName() + ".class")) {
            return new ClassFile(new DataInputStream(file));
        }
    }

    /** Fields and methods of other classes than the program's own, as java/lang/Math.min. */
    TreeSet<String> membersUsed(String own) {
        TreeSet<String> used = new TreeSet<>();
        for (int i = 1; i < tags.length; i++) {
            if (tags[i] == FIELD || tags[i] == METHOD || tags[i] == INTERFACE_METHOD) {
                String of = texts[ones[ones[i]]];
                if (!of.equals(own) && !of.startsWith(own + "$")) {
                    used.add(of + "." + texts[ones[others[i]]]);
                }
            }
        }
        return used;
    }
}
