import java.util.ArrayList;
import java.util.List;

/** Every instruction there is, with every operand: its length, its text, and its bytes again. */
public final class InstructionsTest {
    private static final int INSTRUCTIONS_A_OBJECT = 12;

    private static CodeLister x = new CodeLister();
    private static int uses = 0;

    public static void main(String[] args) {
        everyInstruction();
        everyDataByte();
        everyFirstByte();
        Check.end();
    }

    private static void everyInstruction() {
        instruction("NOP", 0);
        instruction("HALT", 1);
        instruction("RET", 2);
        for (int r = 0; r < 4; r++) {
            instruction("INC r" + r, 16 + r);
            for (int d = 0; d < 4; d++) {
                instruction("MOV r" + d + ",r" + r, 48 + 4 * d + r);
                instruction("ADD r" + d + ",r" + r, 64 + 4 * d + r);
            }
            for (int u = 0; u < 256; u++) {
                instruction("LDI r" + r + "," + u, 32 + r, u);
                instruction("BNZ r" + r + "," + (u < 128 ? u : u - 256), 96 + r, u);
            }
            for (int w = 0; w < 65536; w++) {
                instruction("JZ r" + r + "," + w, 82 + r, w / 256, w % 256);
                instruction("LD r" + r + "," + w, 112 + r, w / 256, w % 256);
                instruction("ST r" + r + "," + w, 116 + r, w / 256, w % 256);
            }
        }
        for (int w = 0; w < 65536; w++) {
            instruction("JMP " + w, 80, w / 256, w % 256);
            instruction("CALL " + w, 81, w / 256, w % 256);
        }
    }

    private static void instruction(String text, int... bytes) {
        useObject();
        Check.add(x, bytes);
        x.enter(0);
        Check.due("length of " + text, x.length(0), bytes.length);
        line(text, bytes);
    }

    private static void everyDataByte() {
        for (int u = 0; u < 256; u++) {
            useObject();
            Check.add(x, u);
            line(".byte " + u, u);
        }
    }

    private static void line(String text, int... bytes) {
        Check.due("list of " + text, x.list(), text.length() + 1);
        Check.due("text", Check.text(x), text + "\n");
        Check.due("assemble of " + text, x.assemble(), bytes.length);
        for (int k = 0; k < bytes.length; k++) {
            Check.due("made(" + k + ") of " + text, x.made(k), bytes[k]);
        }
        Check.due("made behind " + text, x.made(bytes.length), -1);
    }

    private static void useObject() {
        if (uses == INSTRUCTIONS_A_OBJECT) {
            x = new CodeLister();
            uses = 0;
        }
        uses++;
        x.clear();
    }

    private static void everyFirstByte() {
        List<Integer> lengths = new ArrayList<>();
        for (int f = 0; f < 256; f++) {
            lengths.add(Check.image(f, 7, 7, 7).length(0));
        }
        for (int f = 0; f < 256; f++) {
            int want = f <= 2 ? 1
                : f < 16 ? 0 : f <= 19 ? 1
                : f < 32 ? 0 : f <= 35 ? 2
                : f < 48 ? 0 : f <= 79 ? 1
                : f <= 85 ? 3
                : f < 96 ? 0 : f <= 99 ? 2
                : f < 112 ? 0 : f <= 119 ? 3 : 0;
            Check.due("length of first byte " + f, lengths.get(f), want);
        }
    }
}
