import java.util.Arrays;

/** What the tests of the project share: compared answers, and images and texts put into an object. */
final class Check {
    private static int wrong = 0;
    private static String sentence = "";

    private Check() {
    }

    /** The words of the document that the answers from here on hold to; a wrong answer is told with them. */
    static void sentence(String words) {
        sentence = "\"" + words + "\": ";
    }

    static void due(String what, Object got, Object want) {
        if (!got.equals(want)) {
            wrong++;
            System.out.println(sentence + shown(what) + " answered " + shown(got) + ", due is " + shown(want));
        }
    }

    static void end() {
        if (wrong != 0) {
            System.out.println(wrong + " answers are not as due");
            System.exit(1);
        }
    }

    private static String shown(Object answer) {
        return answer.toString().replace("\n", "\\n");
    }

    static CodeLister image(int... bytes) {
        CodeLister x = new CodeLister();
        add(x, bytes);
        return x;
    }

    /** Four bytes a call, since an object has 512 calls only. */
    static void add(CodeLister x, int... bytes) {
        for (int at = 0; at < bytes.length; at += 4) {
            int count = Math.min(4, bytes.length - at);
            int w = 0;
            for (int k = 0; k < 4; k++) {
                w = w << 8 | (k < count ? bytes[at + k] : 0xEE);
            }
            x.append(w, count);
        }
    }

    static int[] filled(int count, int b) {
        int[] bytes = new int[count];
        Arrays.fill(bytes, b);
        return bytes;
    }

    /** So many bytes b, with others in their place from an address on. */
    static int[] filledBut(int count, int b, int address, int... others) {
        int[] bytes = filled(count, b);
        System.arraycopy(others, 0, bytes, address, others.length);
        return bytes;
    }

    /** Numbers that are none of 0 .. count - 1: the nearest ones, the int's ends, and such as a cut would let in. */
    static int[] outside(int count) {
        return new int[] {
            Integer.MIN_VALUE, Integer.MIN_VALUE + 1, -65536, -256, -160, -1,
            count, count + 1, count + 256, count + 65536, Integer.MAX_VALUE - 1, Integer.MAX_VALUE
        };
    }

    static void typeBehind(CodeLister x, String text) {
        int length = x.textLength();
        for (int k = 0; k < text.length(); k++) {
            due("type of character " + (length + k), x.type(length + k, text.charAt(k)), true);
        }
    }

    static CodeLister typed(String text) {
        CodeLister x = new CodeLister();
        typeBehind(x, text);
        return x;
    }

    static String text(CodeLister x) {
        StringBuilder text = new StringBuilder();
        int length = x.textLength();
        for (int i = 0; i < length; i++) {
            text.append((char) x.charAt(i));
        }
        return text.toString();
    }

    static String bytes(CodeLister x) {
        StringBuilder bytes = new StringBuilder();
        int size = x.size();
        for (int i = 0; i < size; i++) {
            bytes.append(x.byteAt(i)).append(' ');
        }
        return bytes.toString();
    }

    static String shown(int... bytes) {
        StringBuilder all = new StringBuilder();
        for (int b : bytes) {
            all.append(b).append(' ');
        }
        return all.toString();
    }

    static String entries(CodeLister x) {
        StringBuilder entries = new StringBuilder();
        int k = 0;
        for (int address = x.entry(0); address != -1; address = x.entry(k)) {
            entries.append(address).append(' ');
            k++;
        }
        return entries.toString();
    }

    static String made(CodeLister x) {
        StringBuilder bytes = new StringBuilder();
        int i = 0;
        for (int b = x.made(0); b != -1; b = x.made(i)) {
            bytes.append(b).append(' ');
            i++;
        }
        return bytes.toString();
    }

    /** All that an object holds, by questions alone. */
    static String state(CodeLister x) {
        return "image " + bytes(x) + "entries " + entries(x) + "text " + text(x) + " made " + made(x);
    }
}
