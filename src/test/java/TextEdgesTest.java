/** The text and the listing at their edges: one method for one sentence (terms, promises 13 to 16). */
public final class TextEdgesTest {
    private static final int[] NO_CHARACTERS = {
        Integer.MIN_VALUE, Integer.MIN_VALUE + 1, -65471, -191, -1, 256, 257, 321, 65536, 65601,
        Integer.MAX_VALUE - 1, Integer.MAX_VALUE
    };

    public static void main(String[] args) {
        listOfNoImage();
        listOfAFullImage();
        listInPlaceOfTheText();
        listWithoutEntries();
        listOfReachedData();
        listOfCutOffInstructions();
        listOfTheLastBytes();
        listOverReachedAddresses();
        leastAndGreatestNumbers();
        digits();
        listingMakesTheImage();
        listingOfNoImageMakesNothing();
        textLength();
        charAtEachPlace();
        charAtNone();
        typeOver();
        typeOneMore();
        typeNoSuchPlace();
        typeNoSuchCharacter();
        typeEachCharacter();
        longestTextOfFewCalls();
        typeToTheLimit();
        Check.end();
    }

    private static void lists(String what, CodeLister x, String due) {
        Check.due("list of " + what, x.list(), due.length());
        Check.due("listing of " + what, Check.text(x), due);
        Check.due("textLength of " + what, x.textLength(), due.length());
        Check.due("character behind the listing of " + what, x.charAt(due.length()), -1);
    }

    private static void listOfNoImage() {
        Check.sentence("The text becomes the listing (in place of what it was): its number of characters.");
        lists("no image", new CodeLister(), "");
        lists("no image, in place of a text", Check.typed("NOP\n"), "");
        CodeLister x = Check.image(0, 1);
        x.enter(0);
        lists("two bytes", x, "NOP\nHALT\n");
        x.clear();
        lists("the image behind clear", x, "");
    }

    private static void listOfAFullImage() {
        Check.sentence("From address 0 on");
        Check.due("data of one digit", Check.image(Check.filled(160, 9)).list(), 1280);
        Check.due("data of two digits", Check.image(Check.filled(160, 10)).list(), 1440);
        Check.due("data of three digits", Check.image(Check.filled(160, 255)).list(), 1600);
        CodeLister pairs = Check.image(Check.filled(160, 35));
        pairs.enter(0);
        Check.due("two bytes each", pairs.list(), 80 * "LDI r3,35\n".length());
        Check.due("its last character", pairs.charAt(799), 10);
        CodeLister threes = Check.image(Check.filled(160, 112));
        threes.enter(0);
        Check.due("three bytes each", threes.list(), 53 * "LD r0,28784\n".length() + ".byte 112\n".length());
        Check.due("the cut off one's line", threes.charAt(53 * 12), (int) '.');
        CodeLister last = Check.image(Check.filled(160, 0));
        last.enter(159);
        Check.due("the last address alone is reached", last.list(), 159 * 8 + 4);
        Check.due("its line", "" + (char) last.charAt(1272) + (char) last.charAt(1275), "N\n");
    }

    private static void listInPlaceOfTheText() {
        Check.sentence("(in place of what it was)");
        CodeLister x = Check.image(1);
        Check.typeBehind(x, "a text that is longer");
        lists("one byte, in place of a longer text", x, ".byte 1\n");
        Check.due("type behind the shorter text", x.type(9, 65), false);
        x.enter(0);
        lists("one byte, in place of its own line", x, "HALT\n");
        lists("one byte, once more", x, "HALT\n");
        x.append(0x02000000, 1);
        lists("two bytes, in place of a shorter text", x, "HALT\n.byte 2\n");
    }

    private static void listWithoutEntries() {
        Check.sentence("else the line is \".byte u\", u the byte there, and the next address is next");
        lists("no entries", Check.image(0, 80, 0, 1, 32, 5), ".byte 0\n.byte 80\n.byte 0\n.byte 1\n.byte 32\n.byte 5\n");
        lists("the least and the greatest byte", Check.image(0, 255), ".byte 0\n.byte 255\n");
    }

    private static void listOfReachedData() {
        Check.sentence("if the address is reached and code");
        CodeLister x = Check.image(255, 3, 0);
        x.enter(0);
        x.enter(1);
        lists("entries that are data", x, ".byte 255\n.byte 3\n.byte 0\n");
    }

    private static void listOfCutOffInstructions() {
        Check.sentence("if the address is reached and code");
        CodeLister x = Check.image(0, 80, 32);
        x.enter(0);
        x.enter(2);
        lists("JMP and LDI cut off", x, "NOP\n.byte 80\n.byte 32\n");
        CodeLister y = Check.image(80, 0);
        y.enter(0);
        y.enter(1);
        lists("a cut off JMP and what is in it", y, ".byte 80\nNOP\n");
        y.append(0, 1);
        lists("the JMP with its last byte", y, "JMP 0\n");
    }

    private static void listOfTheLastBytes() {
        Check.sentence("the line is its instruction's text, and the address behind it is next");
        CodeLister one = Check.image(255, 19);
        one.enter(1);
        lists("one byte at the last", one, ".byte 255\nINC r3\n");
        CodeLister two = Check.image(255, 99, 128);
        two.enter(1);
        lists("two bytes to the last", two, ".byte 255\nBNZ r3,-128\n");
        CodeLister three = Check.image(255, 85, 255, 255);
        three.enter(1);
        lists("three bytes to the last", three, ".byte 255\nJZ r3,65535\n");
    }

    private static void listOverReachedAddresses() {
        Check.sentence("the address behind it is next");
        CodeLister x = Check.image(32, 1, 2);
        x.enter(1);
        x.enter(0);
        lists("an entry within an instruction", x, "LDI r0,1\nRET\n");
        CodeLister y = Check.image(80, 0, 1, 1);
        y.enter(1);
        lists("an entry within what is not reached", y, ".byte 80\nNOP\nHALT\n.byte 1\n");
    }

    private static void leastAndGreatestNumbers() {
        Check.sentence("u is the second byte (0 .. 255), s the same with sign (-128 .. 127), w 256 times the second byte plus the third");
        CodeLister x = Check.image(32, 0, 35, 255, 96, 128, 97, 255, 98, 0, 99, 127, 112, 0, 0, 119, 255, 255, 113, 0, 255, 114, 1, 0);
        x.enter(0);
        lists("the ends of the numbers", x, "LDI r0,0\nLDI r3,255\nBNZ r0,-128\nBNZ r1,-1\nBNZ r2,0\nBNZ r3,127\n"
            + "LD r0,0\nST r3,65535\nLD r1,255\nLD r2,256\n");
        CodeLister y = Check.image(48, 63, 64, 79, 16, 19, 51, 60);
        y.enter(0);
        lists("the ends of the registers", y,
            "MOV r0,r0\nMOV r3,r3\nADD r0,r0\nADD r3,r3\nINC r0\nINC r3\nMOV r0,r3\nMOV r3,r0\n");
    }

    private static void digits() {
        Check.sentence("numbers are decimal without leading zeros, with \"-\" before if negative, and there are no blanks but the one that is shown");
        for (int w : new int[] {0, 1, 9, 10, 11, 99, 100, 101, 999, 1000, 1001, 9999, 10000, 10001, 32767, 32768, 65535}) {
            CodeLister x = Check.image(80, w >> 8, w & 255);
            x.enter(0);
            lists("JMP " + w, x, "JMP " + w + "\n");
        }
        for (int s : new int[] {-128, -127, -101, -100, -99, -11, -10, -9, -1, 0, 1, 9, 10, 99, 100, 127}) {
            CodeLister x = Check.image(97, s & 255);
            x.enter(0);
            lists("BNZ " + s, x, "BNZ r1," + s + "\n");
        }
        for (int u : new int[] {0, 9, 10, 99, 100, 127, 128, 255}) {
            CodeLister x = Check.image(33, u);
            x.enter(0);
            lists("LDI " + u, x, "LDI r1," + u + "\n");
            lists("data " + u, Check.image(u), ".byte " + u + "\n");
        }
    }

    private static void makes(String what, CodeLister x) {
        int size = x.size();
        x.list();
        Check.due("assemble of the listing of " + what, x.assemble(), size);
        for (int i = 0; i <= size; i++) {
            Check.due("made " + i + " of the listing of " + what, x.made(i), x.byteAt(i));
        }
    }

    private static void listingMakesTheImage() {
        Check.sentence("What the listing of an image makes is that image.");
        for (int part = 0; part < 2; part++) {
            int[] bytes = new int[160];
            for (int k = 0; k < 160; k++) {
                bytes[k] = 96 * part + k;
            }
            makes("a full image without entries", Check.image(bytes));
            CodeLister x = Check.image(bytes);
            for (int k = 0; k < 16; k++) {
                x.enter(10 * k);
            }
            makes("a full image with sixteen entries", x);
        }
        for (int first = 0; first < 256; first++) {
            CodeLister x = Check.image(Check.filled(160, first));
            x.enter(0);
            makes("a full image of " + first, x);
        }
        CodeLister cutOff = Check.image(0, 80, 0);
        cutOff.enter(0);
        makes("a cut off jump", cutOff);
    }

    private static void listingOfNoImageMakesNothing() {
        Check.sentence("What the listing of an image makes is that image.");
        makes("no image", new CodeLister());
        CodeLister x = Check.typed("NOP\n");
        Check.due("assemble before", x.assemble(), 1);
        makes("no image, with something made before", x);
    }

    private static void textLength() {
        Check.sentence("The number of characters of the text.");
        CodeLister x = new CodeLister();
        for (int k = 0; k < 200; k++) {
            Check.due("textLength", x.textLength(), k);
            x.type(k, 10);
        }
        x.type(0, 65);
        Check.due("textLength behind typing over the first", x.textLength(), 200);
        x.type(199, 65);
        Check.due("textLength behind typing over the last", x.textLength(), 200);
        x.clear();
        Check.due("textLength behind clear", x.textLength(), 0);
    }

    private static void charAtEachPlace() {
        Check.sentence("Character i of the text");
        CodeLister x = Check.image(Check.filled(160, 79));
        x.enter(0);
        x.list();
        String line = "ADD r3,r3\n";
        for (int i = 0; i < 20; i++) {
            Check.due("charAt " + i, x.charAt(i), (int) line.charAt(i % 10));
            Check.due("charAt " + (1580 + i), x.charAt(1580 + i), (int) line.charAt(i % 10));
        }
    }

    private static void charAtNone() {
        Check.sentence("-1 if there is none.");
        for (String text : new String[] {"", "A", "\0\n\u00ff"}) {
            CodeLister x = Check.typed(text);
            for (int i : Check.outside(text.length())) {
                Check.due("charAt " + i + " of " + text.length(), x.charAt(i), -1);
            }
            for (int i : Check.outside(2400)) {
                Check.due("charAt " + i + " of " + text.length(), x.charAt(i), -1);
            }
        }
        CodeLister x = Check.typed("ABC");
        x.list();
        Check.due("charAt 0, which was there before list", x.charAt(0), -1);
        CodeLister y = Check.typed("ABC");
        y.clear();
        y.type(0, 'D');
        Check.due("charAt 1, which was there before clear", y.charAt(1), -1);
        CodeLister full = Check.image(Check.filled(160, 255));
        full.list();
        for (int i : Check.outside(1600)) {
            Check.due("charAt " + i + " of 1600", full.charAt(i), -1);
        }
    }

    private static void typeOver() {
        Check.sentence("Character i of the text becomes c");
        CodeLister x = Check.typed("ABCD");
        Check.due("the first", x.type(0, 'a'), true);
        Check.due("the last", x.type(3, 'd'), true);
        Check.due("text", Check.text(x), "aBCd");
        CodeLister y = Check.image(1, 1);
        y.list();
        Check.due("the listing's first", y.type(0, 0), true);
        Check.due("the listing's last", y.type(15, 255), true);
        Check.due("listing", Check.text(y), "\0byte 1\n.byte 1\u00ff");
    }

    private static void typeOneMore() {
        Check.sentence("if i is the text's length, it gets one character more");
        CodeLister x = new CodeLister();
        Check.due("to the empty text", x.type(0, 'A'), true);
        Check.due("to one character", x.type(1, 'B'), true);
        Check.due("text", Check.text(x), "AB");
        CodeLister y = Check.image(7);
        y.list();
        Check.due("to a listing", y.type(8, 'C'), true);
        Check.due("listing", Check.text(y), ".byte 7\nC");
        y.clear();
        Check.due("behind clear", y.type(0, 'D'), true);
        Check.due("text behind clear", Check.text(y), "D");
    }

    private static void typeNoSuchPlace() {
        Check.sentence("False if i is not 0 .. its length");
        for (String text : new String[] {"", "A", "ABC"}) {
            CodeLister x = Check.typed(text);
            for (int i : Check.outside(text.length() + 1)) {
                Check.due("type at " + i + " of " + text.length(), x.type(i, 'Z'), false);
            }
            for (int i : Check.outside(2400)) {
                Check.due("type at " + i + " of " + text.length(), x.type(i, 'Z'), false);
            }
            Check.due("text", Check.text(x), text);
        }
        CodeLister x = Check.typed("ABC");
        x.clear();
        Check.due("type at 1 behind clear", x.type(1, 'Z'), false);
        Check.due("textLength", x.textLength(), 0);
    }

    private static void typeNoSuchCharacter() {
        Check.sentence("c is not 0 .. 255");
        for (String text : new String[] {"", "A", "ABC"}) {
            CodeLister x = Check.typed(text);
            for (int c : NO_CHARACTERS) {
                Check.due("type over of " + c, x.type(0, c), false);
                Check.due("type behind of " + c, x.type(text.length(), c), false);
                Check.due("type nowhere of " + c, x.type(-1, c), false);
            }
            Check.due("text", Check.text(x), text);
        }
    }

    private static void typeEachCharacter() {
        Check.sentence("THE TEXT is a row of characters (0 .. 255)");
        CodeLister x = new CodeLister();
        for (int c = 0; c < 256; c++) {
            Check.due("type of " + c, x.type(c, c), true);
        }
        for (int c = 0; c < 255; c++) {
            Check.due("charAt " + c, x.charAt(c), c);
        }
        CodeLister y = new CodeLister();
        Check.due("type of 255", y.type(0, 255), true);
        Check.due("charAt of 255", y.charAt(0), 255);
        Check.due("type of 0 over it", y.type(0, 0), true);
        Check.due("charAt of 0", y.charAt(0), 0);
    }

    /** 40 appends, a listing, 470 characters more and a question: 512 calls, and the longest text they can make. */
    private static void longestTextOfFewCalls() {
        Check.sentence("at most 2400");
        CodeLister x = Check.image(Check.filled(160, 255));
        Check.due("list", x.list(), 1600);
        for (int i = 1600; i < 2070; i++) {
            Check.due("type at " + i, x.type(i, 10), true);
        }
        Check.due("textLength at the 512th call", x.textLength(), 2070);
    }

    /** No 512 calls get that far, so the document leaves these answers free: that it stays refused is our choice. */
    private static void typeToTheLimit() {
        Check.sentence("or it would get more than 2400");
        CodeLister x = new CodeLister();
        for (int i = 0; i < 2400; i++) {
            Check.due("type at " + i, x.type(i, 10), true);
        }
        Check.due("type one too many", x.type(2400, 10), false);
        Check.due("textLength behind the refusal", x.textLength(), 2400);
        Check.due("charAt behind", x.charAt(2400), -1);
        Check.due("type over the last", x.type(2399, 65), true);
        Check.due("charAt the last", x.charAt(2399), 65);
        Check.due("textLength", x.textLength(), 2400);
        Check.due("assemble", x.assemble(), -1);
    }
}
