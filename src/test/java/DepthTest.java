import java.io.DataInputStream;
import java.io.IOException;
import java.io.InputStream;
import java.util.ArrayList;
import java.util.HashMap;
import java.util.HashSet;
import java.util.LinkedHashMap;
import java.util.LinkedHashSet;
import java.util.List;
import java.util.Map;
import java.util.Set;

/** Rule 11 of LANGUAGE.md: calls that are no recursion go at most eight deep; seen in the compiled classes. */
public final class DepthTest {
    private static final int DEEPEST = 8;
    private static final int FIELDS = 21;

    /** Which methods of the class a method calls, each by its class, name and parameters. */
    private static final Map<String, Set<String>> CALLS = new LinkedHashMap<>();
    private static final Map<String, List<String>> LONGEST = new HashMap<>();

    public static void main(String[] args) throws IOException {
        List<Class<?>> classes = new ArrayList<>(List.of(Handshakewarden.class.getDeclaredClasses()));
        classes.add(Handshakewarden.class);
        for (Class<?> one : classes) {
            new Reading(one).readCalls();
            long fields = List.of(one.getDeclaredFields()).stream()
                    .filter(field -> !java.lang.reflect.Modifier.isStatic(field.getModifiers())).count();
            Check.due("fields of " + one.getName() + ": " + fields, true, fields <= FIELDS);
        }
        Check.due("methods were found", true, CALLS.size() > 100);
        for (String method : CALLS.keySet()) {
            List<String> chain = longest(method, new HashSet<>());
            Check.due("calls " + chain, true, chain.size() <= DEEPEST);
        }
        Check.due("the deepest chain is seen", true, LONGEST.values().stream().anyMatch(c -> c.size() == DEEPEST));
        Check.end("DepthTest");
    }

    /** The longest chain of calls that begins with a method; what calls itself again is left out. */
    private static List<String> longest(String method, Set<String> open) {
        if (LONGEST.containsKey(method)) {
            return LONGEST.get(method);
        }
        open.add(method);
        List<String> best = List.of();
        for (String called : CALLS.get(method)) {
            if (!open.contains(called) && CALLS.containsKey(called)) {
                List<String> chain = longest(called, open);
                best = chain.size() > best.size() ? chain : best;
            }
        }
        open.remove(method);
        List<String> chain = new ArrayList<>(List.of(method));
        chain.addAll(best);
        LONGEST.put(method, chain);
        return chain;
    }

    /** Reads one class file as far as calls need it. */
    private static final class Reading {
        private final Class<?> one;
        private Object[] pool;

        Reading(Class<?> one) {
            this.one = one;
        }

        void readCalls() throws IOException {
            String name = one.getName() + ".class";
            try (InputStream stream = one.getResourceAsStream(name); DataInputStream in = new DataInputStream(stream)) {
                in.skipBytes(8);
                readPool(in);
                in.skipBytes(6);
                in.skipBytes(2 * in.readUnsignedShort());
                for (int turn = 0; turn < 2; turn++) {
                    int members = in.readUnsignedShort();
                    for (int i = 0; i < members; i++) {
                        in.skipBytes(2);
                        String member = text(in.readUnsignedShort()) + text(in.readUnsignedShort());
                        readAttributes(in, one.getName() + "." + member);
                    }
                }
            }
        }

        private void readPool(DataInputStream in) throws IOException {
            pool = new Object[in.readUnsignedShort()];
            for (int i = 1; i < pool.length; i++) {
                int tag = in.readUnsignedByte();
                switch (tag) {
                    case 1 -> pool[i] = in.readUTF();
                    case 3, 4 -> in.skipBytes(4);
                    case 5, 6 -> {
                        in.skipBytes(8);
                        i++;
                    }
                    case 7, 8, 16, 19, 20 -> pool[i] = new int[] {in.readUnsignedShort()};
                    case 15 -> in.skipBytes(3);
                    default -> pool[i] = new int[] {in.readUnsignedShort(), in.readUnsignedShort()};
                }
            }
        }

        private String text(int index) {
            return (String) pool[index];
        }

        private int[] pair(int index) {
            return (int[]) pool[index];
        }

        private void readAttributes(DataInputStream in, String member) throws IOException {
            int attributes = in.readUnsignedShort();
            for (int i = 0; i < attributes; i++) {
                String name = text(in.readUnsignedShort());
                byte[] bytes = new byte[in.readInt()];
                in.readFully(bytes);
                if (name.equals("Code")) {
                    CALLS.put(member, new LinkedHashSet<>());
                    readCode(bytes, member);
                }
            }
        }

        private static int at(byte[] bytes, int index, int width) {
            int number = 0;
            for (int i = 0; i < width; i++) {
                number = number << 8 | bytes[index + i] & 255;
            }
            return number;
        }

        private void readCode(byte[] bytes, String member) {
            int end = 8 + at(bytes, 4, 4);
            for (int i = 8; i < end; i += width(bytes, i)) {
                int code = bytes[i] & 255;
                if (code >= 182 && code <= 185) {
                    int[] method = pair(at(bytes, i + 1, 2));
                    int[] name = pair(method[1]);
                    String owner = text(pair(method[0])[0]).replace('/', '.');
                    CALLS.get(member).add(owner + "." + text(name[0]) + text(name[1]));
                }
            }
        }

        /** How many bytes an instruction has, by the tables of the machine's book. */
        private static int width(byte[] bytes, int i) {
            int code = bytes[i] & 255;
            int behind = 4 - (i - 8) % 4;
            if (code == 170) {
                return behind + 12 + 4 * (at(bytes, i + behind + 8, 4) - at(bytes, i + behind + 4, 4) + 1);
            }
            if (code == 171) {
                return behind + 8 + 8 * at(bytes, i + behind + 4, 4);
            }
            if (code == 196) {
                return (bytes[i + 1] & 255) == 132 ? 6 : 4;
            }
            if (code == 16 || code == 18 || code >= 21 && code <= 25 || code >= 54 && code <= 58 || code == 169
                    || code == 188) {
                return 2;
            }
            if (code == 185 || code == 186 || code == 200 || code == 201) {
                return 5;
            }
            if (code == 17 || code == 19 || code == 20 || code == 132 || code >= 153 && code <= 168
                    || code >= 178 && code <= 184 || code == 187 || code == 189 || code == 192 || code == 193
                    || code == 198 || code == 199) {
                return 3;
            }
            return code == 197 ? 4 : 1;
        }
    }
}
