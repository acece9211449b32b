import java.util.ArrayList;
import java.util.HashMap;
import java.util.List;
import java.util.Map;
import java.util.Random;
import java.util.TreeSet;
import java.util.regex.Matcher;
import java.util.regex.Pattern;

/**
 * Runs of up to 512 calls on the class and on a second, slow telling of the document (by lists,
 * sets and patterns), compared call by call. The seed is fixed: each time the same runs.
 */
public final class ModelTest {
    private static final int RUNS = 3000;
    private static final int CALLS = 512;
    private static final String[] PIECES = {
        "NOP\n", "HALT\n", "RET\n", "INC r0\n", "LDI r1,200\n", "MOV r1,r2\n", "JMP 9\n", "BNZ r0,-3\n", ".byte 9\n"
    };

    public static void main(String[] args) {
        Random random = new Random(20261115);
        for (int run = 0; run < RUNS; run++) {
            run(run, random);
        }
        Check.end();
    }

    private static void run(int run, Random random) {
        CodeLister x = new CodeLister();
        Model m = new Model();
        int style = random.nextInt(4);
        String piece = "";
        for (int call = 0; call < CALLS; call++) {
            if (!piece.isEmpty()) {
                compare(run, x, m, "type", m.text.length(), piece.charAt(0));
                piece = piece.substring(1);
                continue;
            }
            int address = random.nextInt(10) == 0 ? random.nextInt() : random.nextInt(m.image.size() + 3) - 1;
            switch (random.nextInt(style == 0 ? 40 : 20)) {
                case 0 -> compare(run, x, m, "enter", address, 0);
                case 1 -> compare(run, x, m, "size", 0, 0);
                case 2 -> compare(run, x, m, "byteAt", address, 0);
                case 3 -> compare(run, x, m, "entry", random.nextInt(19) - 1, 0);
                case 4 -> compare(run, x, m, "length", address, 0);
                case 5 -> compare(run, x, m, "reach", 0, 0);
                case 6 -> compare(run, x, m, "reached", address, 0);
                case 7 -> compare(run, x, m, "body", address, 0);
                case 8 -> compare(run, x, m, "sweep", 0, 0);
                case 9 -> compare(run, x, m, "list", 0, 0);
                case 10 -> compare(run, x, m, "textLength", 0, 0);
                case 11 -> compare(run, x, m, "charAt", random.nextInt(m.text.length() + 3) - 1, 0);
                case 12, 13 -> compare(run, x, m, "assemble", 0, 0);
                case 14 -> compare(run, x, m, "made", random.nextInt(m.made.size() + 3) - 1, 0);
                case 15 -> piece = style < 2 ? "" : PIECES[random.nextInt(PIECES.length)];
                case 16 -> {
                    if (random.nextInt(style == 3 ? 2 : 9) == 0) {
                        compare(run, x, m, "type", random.nextInt(m.text.length() + 3) - 1, character(random));
                    }
                }
                case 17 -> {
                    if (random.nextInt(style == 0 ? 60 : 12) == 0) {
                        compare(run, x, m, "clear", 0, 0);
                    }
                }
                default -> compare(run, x, m, "append", word(random), random.nextInt(20) == 0 ? random.nextInt(8) - 2 : 1 + random.nextInt(4));
            }
        }
    }

    private static int character(Random random) {
        String likely = "0123456789r,-\n .byteNOPJMLDI";
        return random.nextInt(5) == 0 ? random.nextInt(260) - 2 : likely.charAt(random.nextInt(likely.length()));
    }

    private static int word(Random random) {
        int w = 0;
        for (int k = 0; k < 4; k++) {
            w = w << 8 | likelyByte(random);
        }
        return w;
    }

    private static int likelyByte(Random random) {
        int[] firsts = {0, 1, 2, 16, 17, 33, 50, 70, 80, 81, 82, 85, 96, 99, 112, 119};
        switch (random.nextInt(4)) {
            case 0:
                return firsts[random.nextInt(firsts.length)];
            case 1:
                return random.nextInt(20);
            case 2:
                return random.nextInt(3) == 0 ? 256 - 1 - random.nextInt(12) : 0;
            default:
                return random.nextInt(256);
        }
    }

    private static void compare(int run, CodeLister x, Model m, String call, int a, int b) {
        Check.due("run " + run + ": " + call + "(" + a + ", " + b + ")", answer(x, call, a, b), m.answer(call, a, b));
    }

    private static int answer(CodeLister x, String call, int a, int b) {
        switch (call) {
            case "append": return x.append(a, b);
            case "enter": return x.enter(a) ? 1 : 0;
            case "clear": x.clear(); return 0;
            case "size": return x.size();
            case "byteAt": return x.byteAt(a);
            case "entry": return x.entry(a);
            case "length": return x.length(a);
            case "reach": return x.reach();
            case "reached": return x.reached(a) ? 1 : 0;
            case "body": return x.body(a);
            case "sweep": return x.sweep();
            case "list": return x.list();
            case "textLength": return x.textLength();
            case "charAt": return x.charAt(a);
            case "type": return x.type(a, b) ? 1 : 0;
            case "assemble": return x.assemble();
            default: return x.made(a);
        }
    }

    private static final class Model {
        private static final String U = "(0|[1-9][0-9]{0,5})";
        private static final Map<Pattern, Integer> LINES = new HashMap<>();

        static {
            LINES.put(Pattern.compile("NOP"), 0);
            LINES.put(Pattern.compile("HALT"), 1);
            LINES.put(Pattern.compile("RET"), 2);
            LINES.put(Pattern.compile("INC r([0-3])"), 16);
            LINES.put(Pattern.compile("LDI r([0-3])," + U), 32);
            LINES.put(Pattern.compile("MOV r([0-3]),r([0-3])"), 48);
            LINES.put(Pattern.compile("ADD r([0-3]),r([0-3])"), 64);
            LINES.put(Pattern.compile("JMP " + U), 80);
            LINES.put(Pattern.compile("CALL " + U), 81);
            LINES.put(Pattern.compile("JZ r([0-3])," + U), 82);
            LINES.put(Pattern.compile("BNZ r([0-3]),(0|-?[1-9][0-9]{0,5})"), 96);
            LINES.put(Pattern.compile("LD r([0-3])," + U), 112);
            LINES.put(Pattern.compile("ST r([0-3])," + U), 116);
            LINES.put(Pattern.compile("\\.byte " + U), 256);
        }

        private final List<Integer> image = new ArrayList<>();
        private final List<Integer> entries = new ArrayList<>();
        private String text = "";
        private List<Integer> made = new ArrayList<>();

        int answer(String call, int a, int b) {
            switch (call) {
                case "append": return append(a, b);
                case "enter": return enter(a);
                case "clear": return clear();
                case "size": return image.size();
                case "byteAt": return of(image, a);
                case "entry": return of(entries, a);
                case "length": return length(a);
                case "reach": return from(entries, true).size();
                case "reached": return from(entries, true).contains(a) ? 1 : 0;
                case "body": return from(List.of(a), false).size();
                case "sweep": return sweep(0);
                case "list": text = listing(); return text.length();
                case "textLength": return text.length();
                case "charAt": return a >= 0 && a < text.length() ? text.charAt(a) : -1;
                case "type": return type(a, b);
                case "assemble": return assemble();
                default: return of(made, a);
            }
        }

        private static int of(List<Integer> row, int k) {
            return k >= 0 && k < row.size() ? row.get(k) : -1;
        }

        private int append(int w, int count) {
            if (count < 1 || count > 4) return -1;
            if (image.size() + count > 160) return -2;
            int[] four = {w >> 24 & 255, w >> 16 & 255, w >> 8 & 255, w & 255};
            for (int k = 0; k < count; k++) image.add(four[k]);
            return image.size();
        }

        private int enter(int address) {
            if (of(image, address) < 0 || entries.contains(address) || entries.size() == 16) return 0;
            entries.add(address);
            return 1;
        }

        private int clear() {
            image.clear();
            entries.clear();
            text = "";
            made = new ArrayList<>();
            return 0;
        }

        private int length(int a) {
            int f = of(image, a);
            int length;
            if (f >= 0 && f <= 2 || f >> 2 == 4 || f >= 48 && f <= 79) length = 1;
            else if (f >> 2 == 8 || f >> 2 == 24) length = 2;
            else if (f >= 80 && f <= 85 || f >= 112 && f <= 119) length = 3;
            else return 0;
            return a + length <= image.size() ? length : 0;
        }

        private TreeSet<Integer> from(List<Integer> begins, boolean calls) {
            TreeSet<Integer> all = new TreeSet<>();
            for (int a : begins) if (of(image, a) >= 0) all.add(a);
            int before = -1;
            while (all.size() != before) {
                before = all.size();
                for (int a : all.toArray(new Integer[0])) all.addAll(successors(a, calls));
            }
            return all;
        }

        private List<Integer> successors(int a, boolean calls) {
            List<Integer> on = new ArrayList<>();
            int length = length(a);
            if (length == 0) return on;
            int f = image.get(a);
            int w = length == 3 ? image.get(a + 1) * 256 + image.get(a + 2) : 0;
            if (f != 1 && f != 2 && f != 80) on.add(a + length);
            if (f == 80 || f >= 82 && f <= 85 || f == 81 && calls) on.add(w);
            if (f >= 96 && f <= 99) on.add(a + 2 + image.get(a + 1).byteValue());
            on.removeIf(at -> of(image, at) < 0);
            return on;
        }

        private int sweep(int a) {
            if (a >= image.size()) return 0;
            return length(a) > 0 ? 1 + sweep(a + length(a)) : sweep(a + 1);
        }

        private String listing() {
            TreeSet<Integer> reached = from(entries, true);
            StringBuilder all = new StringBuilder();
            for (int a = 0; a < image.size();) {
                boolean code = reached.contains(a) && length(a) > 0;
                all.append(code ? line(a) : ".byte " + image.get(a)).append('\n');
                a += code ? length(a) : 1;
            }
            return all.toString();
        }

        private String line(int a) {
            int f = image.get(a);
            int u = of(image, a + 1);
            int w = u * 256 + of(image, a + 2);
            String r = "r" + f % 4;
            if (f < 3) return new String[] {"NOP", "HALT", "RET"}[f];
            if (f < 20) return "INC " + r;
            if (f < 36) return "LDI " + r + "," + u;
            if (f < 64) return "MOV r" + (f - 48) / 4 + "," + r;
            if (f < 80) return "ADD r" + (f - 64) / 4 + "," + r;
            if (f == 80) return "JMP " + w;
            if (f == 81) return "CALL " + w;
            if (f < 86) return "JZ r" + (f - 82) + "," + w;
            if (f < 100) return "BNZ " + r + "," + (byte) u;
            return (f < 116 ? "LD " : "ST ") + r + "," + w;
        }

        private int type(int i, int c) {
            if (i < 0 || i > text.length() || c < 0 || c > 255 || i == 2400) return 0;
            text = text.substring(0, i) + (char) c + (i < text.length() ? text.substring(i + 1) : "");
            return 1;
        }

        private int assemble() {
            List<Integer> bytes = new ArrayList<>();
            if (!text.isEmpty() && !text.endsWith("\n")) return -1;
            int begin = 0;
            while (begin < text.length()) {
                int end = text.indexOf('\n', begin);
                if (!bytesOf(text.substring(begin, end), bytes)) return -1;
                begin = end + 1;
            }
            if (bytes.size() > 160) return -2;
            made = bytes;
            return made.size();
        }

        private static boolean bytesOf(String line, List<Integer> bytes) {
            for (Map.Entry<Pattern, Integer> e : LINES.entrySet()) {
                Matcher m = e.getKey().matcher(line);
                if (m.matches()) return bytesOf(m, e.getValue(), bytes);
            }
            return false;
        }

        private static boolean bytesOf(Matcher m, int first, List<Integer> bytes) {
            int last = m.groupCount() == 0 ? 0 : Integer.parseInt(m.group(m.groupCount()));
            int r = m.groupCount() == 2 ? Integer.parseInt(m.group(1)) : 0;
            switch (first) {
                case 0: case 1: case 2:
                    bytes.add(first);
                    return true;
                case 16:
                    bytes.add(16 + last);
                    return true;
                case 48: case 64:
                    bytes.add(first + 4 * r + last);
                    return true;
                case 32:
                    bytes.addAll(List.of(32 + r, last));
                    return last <= 255;
                case 96:
                    bytes.addAll(List.of(96 + r, last & 255));
                    return last >= -128 && last <= 127;
                case 256:
                    bytes.add(last);
                    return last <= 255;
                default:
                    bytes.addAll(List.of(first + r, last / 256, last % 256));
                    return last <= 65535;
            }
        }
    }
}
