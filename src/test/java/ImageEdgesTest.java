/** The image at its edges: one method for one sentence of the document (terms, promises 1, 2, 5, 6, 8 and 12). */
public final class ImageEdgesTest {
    private static final int[] WORDS = {0, -1, Integer.MIN_VALUE, Integer.MAX_VALUE, 0x01020304, 0x80FF7F00};
    private static final int[] NO_COUNTS = {
        Integer.MIN_VALUE, Integer.MIN_VALUE + 1, -65535, -255, -4, -1, 0, 5, 6, 8, 257, 65537,
        Integer.MAX_VALUE - 1, Integer.MAX_VALUE
    };

    public static void main(String[] args) {
        newObject();
        appendEachCount();
        appendNoSuchCount();
        appendTooMany();
        appendNoSuchCountBeforeTooMany();
        appendKeepsEntries();
        mostBytes();
        size();
        byteAtEachAddress();
        byteAtNone();
        codeAtTheLastByte();
        codeAgainAfterClear();
        noInstruction();
        lengthOfNone();
        sweepOfNothing();
        sweepOfAFullImage();
        sweepOverCutOffInstructions();
        sweepAsksNoEntries();
        Check.end();
    }

    private static void newObject() {
        Check.sentence("No image, no entries, no text, nothing made.");
        Check.due("state", Check.state(new CodeLister()), "image entries text  made ");
        Check.due("size", new CodeLister().size(), 0);
        Check.due("reach", new CodeLister().reach(), 0);
        Check.due("sweep", new CodeLister().sweep(), 0);
        Check.due("list", new CodeLister().list(), 0);
        Check.due("textLength", new CodeLister().textLength(), 0);
        Check.due("assemble", new CodeLister().assemble(), 0);
        for (int i : Check.outside(0)) {
            Check.due("byteAt " + i, new CodeLister().byteAt(i), -1);
            Check.due("entry " + i, new CodeLister().entry(i), -1);
            Check.due("length " + i, new CodeLister().length(i), 0);
            Check.due("reached " + i, new CodeLister().reached(i), false);
            Check.due("body " + i, new CodeLister().body(i), 0);
            Check.due("charAt " + i, new CodeLister().charAt(i), -1);
            Check.due("made " + i, new CodeLister().made(i), -1);
            Check.due("enter " + i, new CodeLister().enter(i), false);
        }
    }

    private static void appendEachCount() {
        Check.sentence("Appends the highest count of the four bytes of w to the image, the highest first (count 1 .. 4)");
        for (int w : WORDS) {
            int[] four = {w >>> 24, w >>> 16 & 255, w >>> 8 & 255, w & 255};
            for (int count = 1; count <= 4; count++) {
                CodeLister x = new CodeLister();
                String what = "append " + w + ", " + count;
                Check.due(what, x.append(w, count), count);
                Check.due("image after " + what, Check.bytes(x), Check.shown(java.util.Arrays.copyOf(four, count)));
                Check.due("again " + what, x.append(w, count), 2 * count);
                Check.due("behind it", x.byteAt(2 * count), -1);
            }
        }
    }

    private static void appendNoSuchCount() {
        Check.sentence("-1 if count is not that");
        for (int size : new int[] {0, 1, 5, 80}) {
            for (int count : NO_COUNTS) {
                CodeLister x = Check.image(Check.filled(size, 7));
                Check.due("append of " + count + " to " + size, x.append(0x01020304, count), -1);
                Check.due("image", Check.bytes(x), Check.shown(Check.filled(size, 7)));
            }
        }
    }

    private static void appendTooMany() {
        Check.sentence("else -2 if there would be more than 160");
        for (int size = 155; size <= 160; size++) {
            for (int count = 1; count <= 4; count++) {
                boolean fits = size + count <= 160;
                CodeLister x = Check.image(Check.filled(size, 7));
                Check.due("append of " + count + " to " + size, x.append(-1, count), fits ? size + count : -2);
                Check.due("size", x.size(), fits ? size + count : size);
                Check.due("byte behind " + size, x.byteAt(size), fits ? 255 : -1);
                Check.due("last byte before", x.byteAt(size - 1), 7);
            }
        }
        CodeLister x = Check.image(Check.filled(159, 7));
        Check.due("two to 159", x.append(-1, 2), -2);
        Check.due("one to 159 behind the refusal", x.append(0x08000000, 1), 160);
        Check.due("its byte", x.byteAt(159), 8);
    }

    private static void appendNoSuchCountBeforeTooMany() {
        Check.sentence("-1 if count is not that, else -2 if there would be more than 160.");
        CodeLister x = Check.image(Check.filled(160, 7));
        for (int count : NO_COUNTS) {
            Check.due("append of " + count + " to a full image", x.append(0, count), -1);
        }
        Check.due("size", x.size(), 160);
    }

    private static void appendKeepsEntries() {
        Check.sentence("Entries stay.");
        CodeLister x = Check.image(Check.filled(16, 255));
        for (int k = 0; k < 16; k++) {
            x.enter(15 - k);
        }
        String before = Check.entries(x);
        for (int count = 1; count <= 4; count++) {
            x.append(0, count);
            Check.due("entries behind append of " + count, Check.entries(x), before);
        }
        CodeLister full = Check.image(Check.filled(157, 255));
        full.enter(156);
        full.enter(0);
        Check.due("a refused append", full.append(0, 4), -2);
        Check.due("entries behind it", Check.entries(full), "156 0 ");
        Check.due("an append to the full", full.append(0, 3), 160);
        Check.due("entries behind that", Check.entries(full), "156 0 ");
    }

    private static void mostBytes() {
        Check.sentence("THE IMAGE is at most 160 bytes (0 .. 255), at ADDRESSES 0, 1, ..");
        CodeLister x = new CodeLister();
        for (int k = 0; k < 200; k++) {
            Check.due("append of one to " + Math.min(k, 160), x.append(k << 24, 1), k < 160 ? k + 1 : -2);
        }
        for (int k = 0; k < 160; k++) {
            Check.due("byteAt " + k, x.byteAt(k), k);
        }
        Check.due("byteAt 160", x.byteAt(160), -1);
    }

    private static void size() {
        Check.sentence("The number of bytes of the image.");
        CodeLister x = new CodeLister();
        for (int k = 0; k <= 160; k++) {
            Check.due("size", x.size(), k);
            x.append(0, 1);
        }
        Check.due("size of the full image", x.size(), 160);
        x.clear();
        Check.due("size behind clear", x.size(), 0);
    }

    private static void byteAtEachAddress() {
        Check.sentence("The byte at an address");
        for (int from : new int[] {0, 96}) {
            int[] bytes = new int[160];
            for (int k = 0; k < 160; k++) {
                bytes[k] = from + k;
            }
            Check.due("the full image", Check.bytes(Check.image(bytes)), Check.shown(bytes));
        }
        Check.due("the least and the greatest byte", Check.bytes(Check.image(0, 255)), "0 255 ");
    }

    private static void byteAtNone() {
        Check.sentence("-1 if there is none.");
        for (int size : new int[] {0, 1, 4, 159, 160}) {
            CodeLister x = Check.image(Check.filled(size, 7));
            for (int address : Check.outside(size)) {
                Check.due("byteAt " + address + " of " + size, x.byteAt(address), -1);
            }
        }
        CodeLister x = Check.image(1, 2, 3);
        x.clear();
        Check.due("byteAt 0 behind clear", x.byteAt(0), -1);
        x.append(0x04000000, 1);
        Check.due("byteAt 1, which was there before clear", x.byteAt(1), -1);
    }

    /** The table of the document once more, so that the class is not asked for what is due. */
    private static int lengthOf(int first) {
        if (first <= 2 || first >= 16 && first <= 19 || first >= 48 && first <= 79) {
            return 1;
        }
        if (first >= 32 && first <= 35 || first >= 96 && first <= 99) {
            return 2;
        }
        return first >= 80 && first <= 85 || first >= 112 && first <= 119 ? 3 : 0;
    }

    private static void codeAtTheLastByte() {
        Check.sentence("An address of the image is CODE if an instruction begins there and lies within the image as a whole.");
        for (int first = 0; first < 256; first++) {
            for (int behind = 0; behind <= 3; behind++) {
                int due = lengthOf(first) <= behind + 1 ? lengthOf(first) : 0;
                String what = "length of " + first + " with " + behind + " bytes behind it";
                int[] alone = Check.filledBut(behind + 1, 0, 0, first);
                Check.due(what, Check.image(alone).length(0), due);
                int address = 159 - behind;
                int[] full = Check.filledBut(160, 0, address, first);
                Check.due(what + " in a full image", Check.image(full).length(address), due);
            }
        }
    }

    private static void codeAgainAfterClear() {
        Check.sentence("lies within the image as a whole");
        CodeLister x = Check.image(80, 0, 1, 1);
        x.clear();
        x.append(0x50000000, 1);
        Check.due("JMP alone, where its bytes were before clear", x.length(0), 0);
        x.append(0, 1);
        Check.due("JMP with one byte", x.length(0), 0);
        x.append(0, 1);
        Check.due("JMP with both bytes", x.length(0), 3);
    }

    private static void noInstruction() {
        Check.sentence("Other first bytes begin no instruction.");
        int[] edges = {3, 15, 20, 31, 36, 47, 86, 95, 100, 111, 120, 127, 128, 255};
        for (int first : edges) {
            CodeLister x = Check.image(first, 0, 0, 0);
            x.enter(0);
            Check.due("length of " + first, x.length(0), 0);
            Check.due("reach from " + first, x.reach(), 1);
            Check.due("sweep over " + first, x.sweep(), 3);
            x.list();
            Check.due("listing of " + first, Check.text(x), ".byte " + first + "\n.byte 0\n.byte 0\n.byte 0\n");
        }
    }

    private static void lengthOfNone() {
        Check.sentence("0 if the address is not code or not in the image.");
        for (int size : new int[] {0, 1, 159, 160}) {
            CodeLister x = Check.image(Check.filled(size, 0));
            for (int address : Check.outside(size)) {
                Check.due("length " + address + " of " + size, x.length(address), 0);
            }
            if (size > 0) {
                Check.due("length of the last", x.length(size - 1), 1);
            }
        }
    }

    private static void sweepOfNothing() {
        Check.sentence("how many instructions that are.");
        CodeLister x = new CodeLister();
        Check.due("sweep of no image", x.sweep(), 0);
        x.append(0, 4);
        Check.due("sweep", x.sweep(), 4);
        x.clear();
        Check.due("sweep behind clear", x.sweep(), 0);
        Check.due("sweep of data alone", Check.image(Check.filled(160, 255)).sweep(), 0);
    }

    private static void sweepOfAFullImage() {
        Check.sentence("Going from address 0 on, over each instruction where an address is code, else over one byte");
        Check.due("one byte each", Check.image(Check.filled(160, 2)).sweep(), 160);
        Check.due("two bytes each", Check.image(Check.filled(160, 35)).sweep(), 80);
        Check.due("three bytes each, and one cut off", Check.image(Check.filled(160, 119)).sweep(), 53);
        Check.due("the last of 159", Check.image(Check.filledBut(160, 255, 159, 0)).sweep(), 1);
        Check.due("the first", Check.image(Check.filledBut(160, 255, 0, 0)).sweep(), 1);
    }

    private static void sweepOverCutOffInstructions() {
        Check.sentence("else over one byte");
        Check.due("JMP without both bytes", Check.image(80).sweep(), 0);
        Check.due("JMP without its last byte", Check.image(80, 1).sweep(), 1);
        Check.due("LDI without its byte", Check.image(0, 32).sweep(), 1);
        Check.due("LDI in a cut off JMP", Check.image(80, 32).sweep(), 0);
        Check.due("LDI and JMP cut off one behind the other", Check.image(0, 0, 32, 80, 32).sweep(), 3);
        Check.due("an instruction in the last bytes", Check.image(255, 80, 0, 0).sweep(), 1);
    }

    private static void sweepAsksNoEntries() {
        Check.sentence("Going from address 0 on");
        CodeLister x = Check.image(80, 0, 4, 0, 1);
        Check.due("sweep without entries", x.sweep(), 3);
        x.enter(1);
        x.enter(4);
        Check.due("sweep with entries", x.sweep(), 3);
        x.list();
        Check.due("sweep with a listing", x.sweep(), 3);
    }
}
