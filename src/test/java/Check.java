/** What the tests of the project share: compared answers, and images and texts put into an object. */
final class Check {
    private static int wrong = 0;

    private Check() {
    }

    static void due(String what, Object got, Object want) {
        if (!got.equals(want)) {
            wrong++;
            System.out.println(what + " answered " + shown(got) + ", due is " + shown(want));
        }
    }

    static void end() {
        if (wrong != 0) {
            System.out.println(wrong + " answers are not as due");
            System.exit(1);
        }
    }

    private static String shown(Object answer) {
        return answer.toString().replace("\n", "\\n");
    }

    static CodeLister image(int... bytes) {
        CodeLister x = new CodeLister();
        add(x, bytes);
        return x;
    }

    /** Four bytes a call, since an object has 512 calls only. */
    static void add(CodeLister x, int... bytes) {
        for (int at = 0; at < bytes.length; at += 4) {
            int count = Math.min(4, bytes.length - at);
            int w = 0;
            for (int k = 0; k < 4; k++) {
                w = w << 8 | (k < count ? bytes[at + k] : 0xEE);
            }
            x.append(w, count);
        }
    }

    static int[] filled(int count, int b) {
        int[] bytes = new int[count];
        java.util.Arrays.fill(bytes, b);
        return bytes;
    }

    static void typeBehind(CodeLister x, String text) {
        for (int k = 0; k < text.length(); k++) {
            due("type of character " + k, x.type(x.textLength(), text.charAt(k)), true);
        }
    }

    static String text(CodeLister x) {
        StringBuilder text = new StringBuilder();
        for (int i = 0; i < x.textLength(); i++) {
            text.append((char) x.charAt(i));
        }
        return text.toString();
    }

    static String bytes(CodeLister x) {
        StringBuilder bytes = new StringBuilder();
        for (int i = 0; i < x.size(); i++) {
            bytes.append(x.byteAt(i)).append(' ');
        }
        return bytes.toString();
    }

    static String made(CodeLister x) {
        StringBuilder bytes = new StringBuilder();
        for (int i = 0; x.made(i) != -1; i++) {
            bytes.append(x.made(i)).append(' ');
        }
        return bytes.toString();
    }
}
