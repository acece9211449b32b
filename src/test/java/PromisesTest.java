/** Each promise of the document by itself: ordinary inputs, the edges it names, and wrong inputs. */
public final class PromisesTest {
    private static final int[] FAR = {Integer.MIN_VALUE, -1, 160, 161, 65536, Integer.MAX_VALUE};

    public static void main(String[] args) {
        newObject();
        append();
        appendToTheLimit();
        enter();
        enterSixteen();
        clear();
        sizeAndByteAt();
        entry();
        length();
        reach();
        reachThroughEachInstruction();
        reachChangesWithTheImage();
        body();
        sweep();
        list();
        listOfOverlaps();
        textLengthAndCharAt();
        type();
        assembleRightTexts();
        assembleWrongTexts();
        assembleTooMany();
        assembleKeepsAndReplaces();
        made();
        Check.end();
    }

    private static void newObject() {
        isEmpty("new object", new CodeLister());
    }

    private static void isEmpty(String what, CodeLister x) {
        Check.due(what + ": size", x.size(), 0);
        Check.due(what + ": byteAt", x.byteAt(0), -1);
        Check.due(what + ": entry", x.entry(0), -1);
        Check.due(what + ": length", x.length(0), 0);
        Check.due(what + ": reach", x.reach(), 0);
        Check.due(what + ": reached", x.reached(0), false);
        Check.due(what + ": body", x.body(0), 0);
        Check.due(what + ": sweep", x.sweep(), 0);
        Check.due(what + ": textLength", x.textLength(), 0);
        Check.due(what + ": charAt", x.charAt(0), -1);
        Check.due(what + ": made", x.made(0), -1);
        Check.due(what + ": enter", x.enter(0), false);
        Check.due(what + ": list", x.list(), 0);
        Check.due(what + ": assemble", x.assemble(), 0);
    }

    private static void append() {
        CodeLister x = new CodeLister();
        Check.due("append 4", x.append(0x80FF017F, 4), 4);
        Check.due("append 3", x.append(0xFEDCBA98, 3), 7);
        Check.due("append 2", x.append(0x01020304, 2), 9);
        Check.due("append 1", x.append(0xAB000000, 1), 10);
        Check.due("bytes", Check.bytes(x), "128 255 1 127 254 220 186 1 2 171 ");
        for (int count : new int[] {Integer.MIN_VALUE, -1, 0, 5, 8, Integer.MAX_VALUE}) {
            Check.due("append " + count, x.append(0x11223344, count), -1);
        }
        Check.due("size after refusals", x.size(), 10);
        Check.due("enter before more", x.enter(3), true);
        x.append(0, 4);
        Check.due("entries stay", x.entry(0), 3);
    }

    private static void appendToTheLimit() {
        CodeLister x = Check.image(Check.filled(158, 9));
        Check.due("append 3 to 158", x.append(-1, 3), -2);
        Check.due("append 5 to 158", x.append(-1, 5), -1);
        Check.due("size", x.size(), 158);
        Check.due("nothing behind", x.byteAt(158), -1);
        Check.due("append 2 to 158", x.append(0x0A0B0000, 2), 160);
        Check.due("append 1 to 160", x.append(-1, 1), -2);
        Check.due("append 0 to 160", x.append(-1, 0), -1);
        Check.due("append most to 160", x.append(-1, Integer.MAX_VALUE), -1);
        Check.due("size at last", x.size(), 160);
        Check.due("last byte", x.byteAt(159), 11);
    }

    private static void enter() {
        CodeLister x = Check.image(1, 255, 80);
        Check.due("enter not code", x.enter(1), true);
        Check.due("enter code", x.enter(0), true);
        Check.due("enter again", x.enter(1), false);
        Check.due("enter behind", x.enter(3), false);
        for (int address : FAR) {
            Check.due("enter " + address, x.enter(address), false);
        }
        Check.due("enter last", x.enter(2), true);
        x.append(0, 1);
        Check.due("enter what is there now", x.enter(3), true);
        Check.due("entries", x.entry(0) + " " + x.entry(1) + " " + x.entry(2) + " " + x.entry(3) + " " + x.entry(4),
            "1 0 2 3 -1");
    }

    private static void enterSixteen() {
        CodeLister x = Check.image(Check.filled(20, 255));
        for (int k = 0; k < 16; k++) {
            Check.due("enter " + k, x.enter(19 - k), true);
        }
        Check.due("enter a seventeenth", x.enter(0), false);
        Check.due("entry 15", x.entry(15), 4);
        Check.due("entry 16", x.entry(16), -1);
        Check.due("reach", x.reach(), 16);
        Check.due("reached what was refused", x.reached(0), false);
    }

    private static void clear() {
        CodeLister x = Check.image(0, 0, 1);
        x.enter(0);
        x.list();
        x.assemble();
        Check.due("made before clear", Check.made(x), "0 0 1 ");
        x.clear();
        isEmpty("after clear", x);
        x.clear();
        Check.due("image after clear", x.append(0x11000000, 1), 1);
        Check.due("no old byte", x.byteAt(1), -1);
        Check.due("not entered any more", x.reach(), 0);
        Check.due("enter after clear", x.enter(0), true);
        Check.due("list after clear", x.list(), 7);
        Check.due("text after clear", Check.text(x), "INC r1\n");
        Check.due("made is still none", x.made(0), -1);
    }

    private static void sizeAndByteAt() {
        CodeLister x = Check.image(0, 127, 128, 255);
        Check.due("size", x.size(), 4);
        Check.due("bytes", Check.bytes(x), "0 127 128 255 ");
        Check.due("byteAt behind", x.byteAt(4), -1);
        for (int address : FAR) {
            Check.due("byteAt " + address, x.byteAt(address), -1);
        }
    }

    private static void entry() {
        CodeLister x = Check.image(Check.filled(160, 0));
        x.enter(159);
        x.enter(0);
        x.enter(80);
        Check.due("entry 0", x.entry(0), 159);
        Check.due("entry 1", x.entry(1), 0);
        Check.due("entry 2", x.entry(2), 80);
        Check.due("entry 3", x.entry(3), -1);
        for (int k : FAR) {
            Check.due("entry " + k, x.entry(k), -1);
        }
    }

    private static void length() {
        CodeLister x = Check.image(80, 32, 80);
        Check.due("JMP just within", x.length(0), 3);
        Check.due("LDI just within", x.length(1), 2);
        Check.due("JMP cut off", x.length(2), 0);
        x.append(0, 1);
        Check.due("JMP still cut off", x.length(2), 0);
        x.append(0, 1);
        Check.due("JMP whole now", x.length(2), 3);
        Check.due("behind the image", x.length(5), 0);
        for (int address : FAR) {
            Check.due("length " + address, x.length(address), 0);
        }
        Check.due("LDI cut off", Check.image(32).length(0), 0);
        Check.due("BNZ cut off", Check.image(99).length(0), 0);
        Check.due("HALT at the end", Check.image(1).length(0), 1);
        CodeLister full = Check.image(Check.filled(160, 119));
        Check.due("ST in a full image", full.length(157), 3);
        Check.due("ST cut off in a full image", full.length(158), 0);
    }

    /** An entry, then what is reached of eight bytes, as 1 and 0 by address. */
    private static void reaches(String want, int entry, int... bytes) {
        CodeLister x = Check.image(bytes);
        x.enter(entry);
        StringBuilder got = new StringBuilder();
        int count = 0;
        for (int address = 0; address < bytes.length; address++) {
            got.append(x.reached(address) ? '1' : '0');
            count += x.reached(address) ? 1 : 0;
        }
        String what = java.util.Arrays.toString(bytes) + " from " + entry;
        Check.due("reached in " + what, got.toString(), want);
        Check.due("reach in " + what, x.reach(), count);
    }

    private static void reach() {
        CodeLister x = Check.image(1, 1, 255, 0, 1);
        Check.due("nothing entered", x.reach(), 0);
        x.enter(0);
        x.enter(2);
        Check.due("an entry that is not code is reached", x.reach(), 2);
        x.enter(3);
        Check.due("all entries together", x.reach(), 4);
        Check.due("not reached", x.reached(1), false);
        Check.due("behind the image", x.reached(5), false);
        for (int address : FAR) {
            Check.due("reached " + address, x.reached(address), false);
        }
        CodeLister full = Check.image(Check.filled(160, 0));
        full.enter(0);
        Check.due("the whole of a full image", full.reach(), 160);
        Check.due("its last address", full.reached(159), true);
    }

    private static void reachThroughEachInstruction() {
        reaches("11100000", 0, 0, 16, 1, 0, 0, 0, 0, 0);
        reaches("11000000", 0, 0, 2, 0, 0, 0, 0, 0, 0);
        reaches("10101100", 0, 34, 0, 35, 0, 63, 255, 0, 0);
        reaches("11100000", 0, 64, 79, 3, 0, 0, 0, 0, 0);
        reaches("10000010", 0, 80, 0, 6, 0, 0, 0, 1, 0);
        reaches("10010010", 0, 81, 0, 6, 1, 0, 0, 1, 0);
        reaches("10010010", 0, 82, 0, 6, 1, 0, 0, 1, 0);
        reaches("10010010", 0, 85, 0, 6, 1, 0, 0, 1, 0);
        reaches("10100100", 0, 96, 3, 1, 0, 0, 1, 0, 0);
        reaches("00010101", 5, 0, 0, 0, 1, 0, 99, 252, 1);
        reaches("10010000", 0, 112, 0, 6, 1, 0, 0, 1, 0);
        reaches("10010000", 0, 119, 0, 6, 1, 0, 0, 1, 0);
        // Into the middle of an instruction that is reached too.
        reaches("11111000", 0, 82, 0, 1, 0, 1, 0, 0, 0);
        // Out of the image: before it, behind it, and a word that is not cut to a byte.
        reaches("10100000", 0, 96, 253, 1, 0, 0, 0, 0, 0);
        reaches("10100000", 0, 96, 127, 1, 0, 0, 0, 0, 0);
        reaches("10000000", 0, 80, 1, 6, 0, 0, 0, 1, 0);
        reaches("10000000", 0, 80, 0, 8, 0, 0, 0, 1, 0);
        reaches("10000001", 0, 80, 0, 7, 0, 0, 0, 1, 255);
        reaches("00000001", 7, 0, 0, 0, 0, 0, 0, 0, 80);
        // A jump to itself, and one that goes on at the same address twice.
        reaches("10000000", 0, 80, 0, 0, 0, 0, 0, 0, 0);
        reaches("10100000", 0, 96, 0, 1, 0, 0, 0, 0, 0);
    }

    private static void reachChangesWithTheImage() {
        CodeLister x = Check.image(80, 0);
        x.enter(0);
        Check.due("cut off", x.reach(), 1);
        x.append(0x04000000, 1);
        Check.due("goes out of the image", x.reach(), 1);
        x.append(0x00000000, 2);
        Check.due("goes to what is there now", x.reach(), 2);
        Check.due("reached now", x.reached(4), true);
        Check.due("asked twice", x.reach(), 2);
    }

    private static void body() {
        // 0: CALL 5, 3: JMP 8, 6: RET, 7: data, 8: JZ r1,6, 11: HALT
        CodeLister x = Check.image(81, 0, 5, 80, 0, 8, 2, 255, 83, 0, 6, 1);
        Check.due("body 0", x.body(0), 5);
        Check.due("body 3", x.body(3), 4);
        Check.due("body of RET", x.body(6), 1);
        Check.due("body of no code", x.body(7), 1);
        Check.due("body 12", x.body(12), 0);
        for (int address : FAR) {
            Check.due("body " + address, x.body(address), 0);
        }
        Check.due("body enters nothing", x.reach(), 0);
        x.enter(0);
        Check.due("entries do not count", x.body(6), 1);
        Check.due("reach goes into the call", x.reach(), 6);
        Check.due("body again", x.body(0), 5);
        Check.due("CALL at the end", Check.image(0, 81, 0, 0).body(1), 1);
        Check.due("a BNZ back", Check.image(0, 1, 96, 252, 1).body(2), 4);
    }

    private static void sweep() {
        Check.due("sweep", Check.image(0, 80, 1, 1, 255, 255, 32, 1, 1, 112, 0).sweep(), 5);
        Check.due("sweep of data", Check.image(255, 3, 15, 20).sweep(), 0);
        Check.due("sweep over what is cut off", Check.image(80, 80, 16).sweep(), 1);
        Check.due("sweep goes on behind one byte", Check.image(82, 0).sweep(), 1);
        Check.due("sweep of a full image", Check.image(Check.filled(160, 2)).sweep(), 160);
        Check.due("sweep of full pairs", Check.image(Check.filled(160, 96)).sweep(), 80);
    }

    private static void lists(String want, int entry, int... bytes) {
        CodeLister x = Check.image(bytes);
        x.enter(entry);
        Check.due("list", x.list(), want.length());
        Check.due("listing", Check.text(x), want);
        Check.due("assemble of the listing", x.assemble(), bytes.length);
        Check.due("it makes the image", Check.made(x), Check.bytes(x));
    }

    private static void list() {
        lists(".byte 0\n.byte 80\n.byte 0\n.byte 255\n", -1, 0, 80, 0, 255);
        lists("LDI r3,255\nMOV r2,r1\nADD r0,r3\nBNZ r1,-128\nBNZ r2,127\nHALT\n.byte 0\n", 0,
            35, 255, 57, 67, 97, 128, 98, 127, 1, 0);
        lists("JMP 3\nCALL 65535\nJZ r3,256\nLD r0,10\nST r3,0\nRET\n", 0,
            80, 0, 3, 81, 255, 255, 85, 1, 0, 112, 0, 10, 119, 0, 0, 2);
        lists("INC r0\nNOP\n.byte 81\n.byte 0\n", 0, 16, 0, 81, 0);
        CodeLister x = Check.image(1);
        Check.typeBehind(x, "something longer");
        Check.due("list in place of a text", x.list(), 8);
        Check.due("that text", Check.text(x), ".byte 1\n");
        x.enter(0);
        Check.due("list again", x.list(), 5);
        Check.due("text again", Check.text(x), "HALT\n");
        Check.due("list makes nothing", x.made(0), -1);
        CodeLister full = Check.image(Check.filled(160, 79));
        full.enter(0);
        Check.due("the longest listing", full.list(), 1600);
        Check.due("its last line end", full.charAt(1599), 10);
        Check.due("assemble of the longest", full.assemble(), 160);
        Check.due("its last byte", full.made(159), 79);
    }

    private static void listOfOverlaps() {
        // The line at 0 covers address 2, which is reached too.
        lists("JZ r0,1\nNOP\nHALT\n", 0, 82, 0, 1, 0, 1);
        // Not reached at 0, so that the instruction reached at 1 gets a line.
        lists(".byte 80\nRET\n.byte 2\n", 1, 80, 2, 2);
        // Reached behind an instruction's begin, which is data itself.
        lists(".byte 112\n.byte 32\nNOP\nHALT\n", 2, 112, 32, 0, 1);
    }

    private static void textLengthAndCharAt() {
        CodeLister x = new CodeLister();
        x.type(0, 0);
        x.type(1, 255);
        x.type(2, 128);
        Check.due("textLength", x.textLength(), 3);
        Check.due("charAt 0", x.charAt(0), 0);
        Check.due("charAt 1", x.charAt(1), 255);
        Check.due("charAt 2", x.charAt(2), 128);
        for (int i : new int[] {Integer.MIN_VALUE, -1, 3, 2399, 2400, Integer.MAX_VALUE}) {
            Check.due("charAt " + i, x.charAt(i), -1);
        }
    }

    private static void type() {
        CodeLister x = new CodeLister();
        Check.due("type behind the end", x.type(1, 65), false);
        Check.due("type at the end", x.type(0, 65), true);
        Check.due("type over", x.type(0, 66), true);
        Check.due("type one more", x.type(1, 67), true);
        for (int i : new int[] {Integer.MIN_VALUE, -1, 3, 2399, 2400, Integer.MAX_VALUE}) {
            Check.due("type at " + i, x.type(i, 65), false);
        }
        for (int c : new int[] {Integer.MIN_VALUE, -1, 256, 65601, Integer.MAX_VALUE}) {
            Check.due("type of " + c, x.type(0, c), false);
            Check.due("type at the end of " + c, x.type(2, c), false);
        }
        Check.due("text", Check.text(x), "BC");
    }

    private static void assembles(String text, String bytes) {
        CodeLister x = new CodeLister();
        Check.typeBehind(x, text);
        Check.due("assemble of " + text, x.assemble(), bytes.isEmpty() ? 0 : bytes.split(" ").length);
        Check.due("made of " + text, Check.made(x), bytes);
        Check.due("the text stays", Check.text(x), text);
    }

    private static void assembleRightTexts() {
        assembles("", "");
        assembles("NOP\nHALT\nRET\nINC r3\nMOV r3,r0\nADD r1,r2\n", "0 1 2 19 60 70 ");
        assembles("LDI r0,0\nLDI r1,10\nLDI r3,255\n", "32 0 33 10 35 255 ");
        assembles("BNZ r0,-128\nBNZ r1,-1\nBNZ r2,0\nBNZ r3,127\n", "96 128 97 255 98 0 99 127 ");
        assembles("JMP 0\nJMP 65535\nCALL 256\nJZ r3,255\n", "80 0 0 80 255 255 81 1 0 85 0 255 ");
        assembles("LD r1,4660\nST r2,10000\n", "113 18 52 118 39 16 ");
        assembles(".byte 0\n.byte 80\n.byte 255\n", "0 80 255 ");
    }

    private static void isWrong(String text) {
        CodeLister x = new CodeLister();
        Check.typeBehind(x, text);
        Check.due("assemble of " + text, x.assemble(), -1);
        Check.due("made of " + text, x.made(0), -1);
    }

    private static void assembleWrongTexts() {
        String[] lines = {
            "", " ", "nop", "NOP ", " NOP", "NOPE", "NO", "N", "NOP\r", "NOP\0", "NOP NOP", "HALT 1", "RET r0", "FOO",
            "INC", "INC ", "INC r", "INC r4", "INC 0", "INC R0", "INC r00", "INC r0 ", "INC  r0", "INC r0,", "INC r-1",
            "INCr0", "inc r0", "INC r/", "INC r0,r1", "MOV r0", "MOV r0,", "MOV r0,r", "MOV r0,r4", "MOV r4,r0",
            "MOV r0, r1", "MOV r0 ,r1", "MOV r0r1", "MOV ,r1", "MOV r0,1", "MOV r0,r1,r2", "ADD r0.r1", "ADD r1,r1 ",
            "LDI r0", "LDI r0,", "LDI r0,256", "LDI r0,-1", "LDI r0,-0", "LDI r0,00", "LDI r0,01", "LDI r0,+1",
            "LDI r0,1 ", "LDI r0, 1", "LDI r0,x", "LDI r0,1a", "LDI r0,1000", "LDI r0,r1", "LDI 0,1", "LDI r0:1",
            "LDI r0,4294967296", "LDI r0,1,", "JMP", "JMP ", "JMP 65536", "JMP 99999", "JMP 100000", "JMP 655350",
            "JMP 00", "JMP 01", "JMP 012345", "JMP 000001", "JMP -1", "JMP -0", "JMP r0", "JMP r0,1", "JMP 1,1", "JMP ,1",
            "JMP 4294967296", "JMP 18446744073709551616", "CALL 65536", "CALL1", "CALL", "JZ 1", "JZ r0", "JZ r0,65536",
            "JZ r4,0", "JZ r0,-1", "BNZ r0,128", "BNZ r0,-129", "BNZ r0,-", "BNZ r0,--1", "BNZ r0,-0", "BNZ r0,-01",
            "BNZ r0,255", "BNZ r0,00", "BNZ r0,- 1", "BNZ r0,+1", "BNZ 0", "BNZ r4,0", "BNZ r0,-00128", "LD r0",
            "LD r0,65536", "LD r0,-1", "LDr0,1", "LD  r0,1", "ST r0,", "ST r4,1", "ST r0,065", "ST r0,70000", ".byte",
            ".byte ", ".byte 256", ".byte -1", ".byte -0", ".byte 00", ".byte 01", ".byte  1", ".byte 1 ", ".byte1",
            ".BYTE 1", "byte 1", ".byte r0", ".byte 1,2", ".byte ,1", ".byte 1000", ".byte :", ".byte /", "\u00ff"
        };
        for (String line : lines) {
            isWrong(line + "\n");
            isWrong("NOP\n" + line + "\nHALT\n");
        }
        for (String text : new String[] {"NOP", "HALT\nRET", ".byte 7", "JMP 1", "INC r1", "BNZ r0,", "\n\n", "NOP\n\n", "\nNOP\n"}) {
            isWrong(text);
        }
    }

    private static CodeLister fullListing() {
        CodeLister x = Check.image(Check.filled(160, 0));
        x.enter(0);
        x.list();
        Check.due("assemble of 160", x.assemble(), 160);
        return x;
    }

    private static void assembleTooMany() {
        CodeLister x = fullListing();
        Check.typeBehind(x, "RET");
        Check.due("161, not right", x.assemble(), -1);
        Check.typeBehind(x, "\n");
        Check.due("161", x.assemble(), -2);
        Check.due("made stays", x.made(159) + " " + x.made(160), "0 -1");
        Check.typeBehind(x, "FOO\n");
        Check.due("not right behind too many", x.assemble(), -1);
        CodeLister y = fullListing();
        y.type(0, 'R');
        y.type(1, 'E');
        y.type(2, 'T');
        Check.typeBehind(y, "JMP 258\n");
        Check.due("163", y.assemble(), -2);
        Check.due("made is none of the refused", y.made(0), 0);
        CodeLister z = Check.image(Check.filled(159, 0));
        z.enter(0);
        z.list();
        Check.typeBehind(z, "LDI r0,1\n");
        Check.due("one of two bytes too many", z.assemble(), -2);
        Check.due("made of a first refusal", z.made(0), -1);
    }

    private static void assembleKeepsAndReplaces() {
        CodeLister x = Check.image(1, 2, 3);
        x.list();
        Check.due("assemble", x.assemble(), 3);
        x.append(0x04000000, 1);
        Check.due("append keeps what was made", Check.made(x), "1 2 3 ");
        x.enter(0);
        x.list();
        Check.due("list keeps what was made", Check.made(x), "1 2 3 ");
        x.type(0, 'X');
        Check.due("not right", x.assemble(), -1);
        Check.due("kept after a refusal", Check.made(x), "1 2 3 ");
        Check.due("text kept after a refusal", Check.text(x), "XALT\n.byte 2\n.byte 3\n.byte 4\n");
        x.type(0, 'H');
        Check.due("right again", x.assemble(), 4);
        Check.due("made now", Check.made(x), "1 2 3 4 ");
        Check.due("image is not touched", Check.bytes(x), "1 2 3 4 ");
        CodeLister y = new CodeLister();
        Check.typeBehind(y, "JMP 7\n");
        y.assemble();
        y.type(2, '\n');
        Check.due("not right at its first line", y.assemble(), -1);
        y.list();
        Check.due("the empty text", y.assemble(), 0);
        Check.due("nothing is made of it", y.made(0), -1);
    }

    private static void made() {
        CodeLister x = new CodeLister();
        Check.typeBehind(x, "LD r3,43775\nNOP\n");
        Check.due("made before", x.made(0), -1);
        x.assemble();
        Check.due("made", Check.made(x), "115 170 255 0 ");
        for (int i : FAR) {
            Check.due("made " + i, x.made(i), -1);
        }
    }
}
