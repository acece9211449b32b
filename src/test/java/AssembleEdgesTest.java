/** Assembling at its edges: one method for one sentence of the document (terms, promises 17 and 18). */
public final class AssembleEdgesTest {
    /** A line of each kind, and one with a negative number. */
    private static final String[] EACH_KIND = {
        "NOP", "HALT", "RET", "INC r1", "LDI r1,10", "MOV r1,r2", "ADD r1,r2", "JMP 10", "CALL 10", "JZ r1,10",
        "BNZ r1,10", "BNZ r1,-10", "LD r1,10", "ST r1,10", ".byte 10"
    };
    private static final String[] OF_A_WORD = {"JMP ", "CALL ", "JZ r0,", "JZ r3,", "LD r0,", "LD r3,", "ST r0,", "ST r3,"};
    private static final int[] FIRST_OF_A_WORD = {80, 81, 82, 85, 112, 115, 116, 119};

    public static void main(String[] args) {
        emptyText();
        leastAndGreatestWord();
        leastAndGreatestByte();
        leastAndGreatestSigned();
        leastAndGreatestData();
        leastAndGreatestRegister();
        numbersFarBeyond();
        noLeadingZeros();
        minusIfNegativeAlone();
        blanks();
        lineEnds();
        emptyLines();
        otherTexts();
        otherCharacters();
        notRightInTheLastLineAlone();
        notRightInTheFirstLineAlone();
        notRightInALongText();
        exactlyTheMost();
        oneTooMany();
        tooManyByTheirLastBytes();
        notRightBeforeTooMany();
        farTooMany();
        textStays();
        madeBeforeStays();
        madeOfNone();
        madeLast();
        Check.end();
    }

    private static void makes(String line, int... bytes) {
        CodeLister x = Check.typed(line + "\n");
        Check.due("assemble of " + line, x.assemble(), bytes.length);
        Check.due("made of " + line, Check.made(x), Check.shown(bytes));
    }

    /** The line alone, behind right lines and before right ones: not right, and what was made before is there still. */
    private static void notRight(String line) {
        notRightText(line + "\n", "");
        notRightText("NOP\n" + line + "\n", "");
        notRightText(line + "\n", "NOP\n");
    }

    private static void notRightText(String text, String behind) {
        CodeLister x = Check.typed("RET\n");
        Check.due("assemble before", x.assemble(), 1);
        for (int k = 0; k < text.length(); k++) {
            x.type(k, text.charAt(k));
        }
        String whole = text.length() < 4 ? text + "RET\n".substring(text.length()) : text;
        Check.typeBehind(x, behind);
        Check.due("assemble of " + whole + behind, x.assemble(), -1);
        Check.due("made behind the refusal of " + whole + behind, Check.made(x), "2 ");
        Check.due("text behind the refusal", Check.text(x), whole + behind);
        CodeLister alone = Check.typed(text + behind);
        Check.due("assemble of " + text + behind, alone.assemble(), -1);
        Check.due("made of " + text + behind, alone.made(0), -1);
    }

    private static void emptyText() {
        Check.sentence("(which stays; none of the empty one)");
        CodeLister x = new CodeLister();
        Check.due("assemble of the empty text", x.assemble(), 0);
        Check.due("made of it", x.made(0), -1);
        Check.due("textLength", x.textLength(), 0);
        Check.typeBehind(x, "NOP\nHALT\n");
        Check.due("assemble of two lines", x.assemble(), 2);
        x.list();
        Check.due("assemble of the empty text again", x.assemble(), 0);
        Check.due("what was made before", Check.made(x), "");
    }

    private static void leastAndGreatestWord() {
        Check.sentence("w 256 times the second byte plus the third");
        for (int k = 0; k < OF_A_WORD.length; k++) {
            int first = FIRST_OF_A_WORD[k];
            makes(OF_A_WORD[k] + 0, first, 0, 0);
            makes(OF_A_WORD[k] + 1, first, 0, 1);
            makes(OF_A_WORD[k] + 255, first, 0, 255);
            makes(OF_A_WORD[k] + 256, first, 1, 0);
            makes(OF_A_WORD[k] + 32767, first, 127, 255);
            makes(OF_A_WORD[k] + 32768, first, 128, 0);
            makes(OF_A_WORD[k] + 65279, first, 254, 255);
            makes(OF_A_WORD[k] + 65534, first, 255, 254);
            makes(OF_A_WORD[k] + 65535, first, 255, 255);
            for (int beyond : new int[] {-65536, -32768, -128, -2, -1, 65536, 65537, 65545, 65600, 66000, 70000, 99999, 100000}) {
                notRight(OF_A_WORD[k] + beyond);
            }
        }
    }

    private static void leastAndGreatestByte() {
        Check.sentence("u is the second byte (0 .. 255)");
        for (int r = 0; r < 4; r++) {
            for (int u : new int[] {0, 1, 9, 10, 99, 100, 127, 128, 254, 255}) {
                makes("LDI r" + r + "," + u, 32 + r, u);
            }
            for (int beyond : new int[] {-256, -255, -128, -2, -1, 256, 257, 260, 300, 511, 512, 999, 1000, 65535, 65536}) {
                notRight("LDI r" + r + "," + beyond);
            }
        }
    }

    private static void leastAndGreatestSigned() {
        Check.sentence("s the same with sign (-128 .. 127)");
        for (int r = 0; r < 4; r++) {
            for (int s : new int[] {-128, -127, -100, -99, -10, -9, -1, 0, 1, 9, 10, 99, 100, 126, 127}) {
                makes("BNZ r" + r + "," + s, 96 + r, s & 255);
            }
            for (int beyond : new int[] {-65536, -1000, -256, -255, -130, -129, 128, 129, 130, 200, 255, 256, 1000, 65535, 65536}) {
                notRight("BNZ r" + r + "," + beyond);
            }
        }
    }

    private static void leastAndGreatestData() {
        Check.sentence("else the line is \".byte u\", u the byte there");
        for (int u : new int[] {0, 1, 9, 10, 80, 99, 100, 127, 128, 254, 255}) {
            makes(".byte " + u, u);
        }
        for (int beyond : new int[] {-256, -255, -128, -2, -1, 256, 257, 260, 300, 511, 512, 999, 1000, 65535, 65536}) {
            notRight(".byte " + beyond);
        }
    }

    private static void leastAndGreatestRegister() {
        Check.sentence("d and r are registers 0 to 3");
        String[] before = {"INC ", "LDI ", "MOV ", "MOV r0,", "ADD ", "ADD r0,", "JZ ", "BNZ ", "LD ", "ST "};
        String[] behind = {"", ",0", ",r0", "", ",r0", "", ",0", ",0", ",0", ",0"};
        int[] first = {16, 32, 48, 48, 64, 64, 82, 96, 112, 116};
        int[] step = {1, 1, 4, 1, 4, 1, 1, 1, 1, 1};
        for (int k = 0; k < before.length; k++) {
            for (int r = 0; r < 4; r++) {
                CodeLister x = Check.typed(before[k] + "r" + r + behind[k] + "\n");
                Check.due("assemble with register " + r, x.assemble() > 0, true);
                Check.due("first byte of " + before[k] + "r" + r, x.made(0), first[k] + step[k] * r);
            }
            for (String other : new String[] {"r4", "r5", "r9", "r-1", "r", "r/", "r:", "r10", "r00", "r03", "R0", "0", "", "rr0", "r 0", "s0"}) {
                notRight(before[k] + other + behind[k]);
            }
        }
    }

    private static void numbersFarBeyond() {
        Check.sentence("each is a text that some instruction or some byte of data has");
        String[] before = {"LDI r0,", "BNZ r0,", ".byte ", "JMP ", "CALL ", "JZ r0,", "LD r0,", "ST r0,"};
        String[] numbers = {
            "2147483647", "2147483648", "-2147483648", "-2147483649", "4294967295", "4294967296", "4294967297",
            "-4294967296", "-4294967297", "9223372036854775808", "18446744073709551616", "18446744073709551617",
            "100000000000000000000000000000000", "65536000000"
        };
        for (String kind : before) {
            for (String number : numbers) {
                notRight(kind + number);
            }
        }
    }

    private static void noLeadingZeros() {
        Check.sentence("numbers are decimal without leading zeros");
        String[] before = {"LDI r1,", "BNZ r1,", "BNZ r1,-", ".byte ", "JMP ", "CALL ", "JZ r1,", "LD r1,", "ST r1,"};
        for (String kind : before) {
            for (String number : new String[] {"00", "01", "09", "010", "000", "001", "0100", "00000", "000000", "0000001", "0x1", "0A", "A", "1A", "1.", "1e1"}) {
                notRight(kind + number);
            }
        }
        makes("LDI r1,0", 33, 0);
        makes("JMP 0", 80, 0, 0);
        makes("BNZ r1,100", 97, 100);
    }

    private static void minusIfNegativeAlone() {
        Check.sentence("with \"-\" before if negative");
        for (String number : new String[] {"-", "-0", "--1", "-+1", "+1", "+0", "+", "1-", "0-1", "- 1", "-r1", "-128-", "-1280"}) {
            for (String before : new String[] {"LDI r1,", "BNZ r1,", ".byte ", "JMP ", "CALL ", "JZ r1,", "LD r1,", "ST r1,"}) {
                notRight(before + number);
            }
        }
        makes("BNZ r1,-1", 97, 255);
    }

    private static void blanks() {
        Check.sentence("there are no blanks but the one that is shown");
        for (String line : EACH_KIND) {
            for (int at = 0; at <= line.length(); at++) {
                for (char blank : new char[] {' ', 9, 0, 13, 160}) {
                    notRight(line.substring(0, at) + blank + line.substring(at));
                }
            }
            int blankShown = line.indexOf(' ');
            if (blankShown >= 0) {
                notRight(line.substring(0, blankShown) + line.substring(blankShown + 1));
                notRight(line.replace(' ', (char) 9));
                notRight(line.replace(' ', ','));
                notRight(line.substring(0, blankShown));
                notRight(line.substring(0, blankShown + 1));
            }
        }
    }

    private static void lineEnds() {
        Check.sentence("A text is RIGHT if it is a row of lines, each ended by the character 10");
        for (String line : EACH_KIND) {
            for (String end : new String[] {"", "\r", "\0", " ", ";", "\u008a"}) {
                Check.due("assemble of " + line + " without its end", Check.typed(line + end).assemble(), -1);
                Check.due("behind a right line", Check.typed("NOP\n" + line + end).assemble(), -1);
                Check.due("before a right line", Check.typed(line + end + "NOP\n").assemble(), -1);
            }
            CodeLister x = Check.typed(line);
            Check.due("assemble of " + line + " without its end", x.assemble(), -1);
            x.type(line.length(), 10);
            Check.due("assemble of " + line + " with its end", x.assemble() > 0, true);
        }
        notRight("NOPNOP");
    }

    private static void emptyLines() {
        Check.sentence("each is a text that some instruction or some byte of data has");
        for (String text : new String[] {"\n", "\n\n", "NOP\n\n", "\nNOP\n", "NOP\n\nNOP\n", "NOP\n\n\n"}) {
            Check.due("assemble of " + text, Check.typed(text).assemble(), -1);
        }
    }

    private static void otherTexts() {
        Check.sentence("each is a text that some instruction or some byte of data has");
        for (String line : EACH_KIND) {
            notRight(line + "x");
            notRight("x" + line);
            notRight(line.substring(1));
            notRight(line + ",");
            notRight("," + line);
            notRight(line + ",r1");
            notRight(line + ",1");
            notRight(line.toLowerCase().equals(line) ? line.toUpperCase() : line.toLowerCase());
            if (line.indexOf(',') >= 0) {
                notRight(line.replace(",", ""));
                notRight(line.replace(",", ",,"));
                notRight(line.replace(',', ';'));
                notRight(line.substring(0, line.indexOf(',')));
                notRight(line.substring(0, line.indexOf(',') + 1));
            }
        }
        for (String line : new String[] {"NOP 1", "HALT r1", "RET 0", "INC 1", "JMP r1", "CALL r1", "JMP r1,1", "LDI r1,r1",
            "MOV r1,1", "MOV 1,r1", "ADD 1,1", "LDI 1,r1", "JZ 1", "JZ 1,r1", "BNZ 1", "LD 1", "ST 1,r1", ".byte r1", ".byte",
            "byte 1", ".word 1", "LDA r1,1", "SUB r1,r1", "DEC r1", "JNZ r1,1", "BZ r1,1"}) {
            notRight(line);
        }
    }

    /** One character of each kind of line is one that no line has; those next to the digits and letters are among them. */
    private static void otherCharacters() {
        Check.sentence("each is a text that some instruction or some byte of data has");
        for (String line : EACH_KIND) {
            for (int at = 0; at < line.length(); at++) {
                for (int c : new int[] {0, 1, 9, 11, 13, 31, '!', '/', ':', '@', '[', '`', '{', 127, 128, 255, line.charAt(at) + 128}) {
                    notRight(line.substring(0, at) + (char) (c & 255) + line.substring(at + 1));
                }
            }
        }
    }

    private static void notRightInTheLastLineAlone() {
        Check.sentence("-1 if it is not right");
        CodeLister x = new CodeLister();
        StringBuilder right = new StringBuilder();
        for (String line : EACH_KIND) {
            right.append(line).append('\n');
        }
        Check.typeBehind(x, right.toString());
        int count = x.assemble();
        Check.due("assemble of a line of each kind", count, 28);
        String made = Check.made(x);
        Check.typeBehind(x, "JMP 65536\n");
        Check.due("assemble with a last line that is not right", x.assemble(), -1);
        Check.due("made behind the refusal", Check.made(x), made);
        int lastDigit = right.length() + "JMP 6553".length();
        x.type(lastDigit, '5');
        Check.due("assemble with a last line that is right", x.assemble(), count + 3);
        x.type(lastDigit + 1, ' ');
        Check.due("assemble with a last line that does not end", x.assemble(), -1);
        x.type(lastDigit + 1, '\n');
        Check.typeBehind(x, "\n");
        Check.due("assemble with an empty last line", x.assemble(), -1);
        Check.due("the last byte that was made", x.made(count + 2), 255);
    }

    private static void notRightInTheFirstLineAlone() {
        Check.sentence("-1 if it is not right");
        CodeLister x = Check.typed("NOP\nRET\nHALT\n");
        x.assemble();
        x.type(0, 'n');
        Check.due("assemble", x.assemble(), -1);
        Check.due("made behind the refusal", Check.made(x), "0 2 1 ");
        x.type(0, 'N');
        Check.due("assemble when it is right again", x.assemble(), 3);
    }

    private static void notRightInALongText() {
        Check.sentence("-1 if it is not right");
        CodeLister x = Check.image(Check.filled(160, 255));
        x.list();
        Check.due("assemble of 160 lines", x.assemble(), 160);
        x.type(1598, '6');
        Check.due("assemble with 256 in the last of them", x.assemble(), -1);
        x.type(1598, '4');
        Check.due("assemble with 254 in it", x.assemble(), 160);
        Check.due("made", x.made(158) + " " + x.made(159), "255 254");
        x.type(1599, ' ');
        Check.due("assemble without its end", x.assemble(), -1);
        Check.due("made behind the refusals", x.made(158) + " " + x.made(159), "255 254");
    }

    /** An image that is listed as calls of three bytes, with data behind: a short text for many bytes. */
    private static CodeLister listed(int size) {
        int[] calls = Check.filled(size, 0);
        for (int k = 0; k + 3 <= size; k += 3) {
            calls[k] = 81;
        }
        CodeLister x = Check.image(calls);
        x.enter(0);
        x.list();
        return x;
    }

    private static void exactlyTheMost() {
        Check.sentence("It MAKES the bytes of these, one line after the other, at most 160.");
        for (int size = 157; size <= 159; size++) {
            CodeLister x = listed(size);
            String last = new String[] {"ST r3,65535\n", "LDI r3,255\n", "ADD r3,r3\n"}[size - 157];
            Check.typeBehind(x, last);
            Check.due("assemble of " + size + " bytes and " + last, x.assemble(), 160);
            Check.due("made 0", x.made(0), 81);
            Check.due("the last line's first byte", x.made(size), new int[] {119, 35, 79}[size - 157]);
            Check.due("the last byte", x.made(159), size == 159 ? 79 : 255);
            Check.due("made 160", x.made(160), -1);
        }
    }

    private static void oneTooMany() {
        Check.sentence("else -2 if there would be more than 160");
        CodeLister x = listed(160);
        Check.due("assemble of 160", x.assemble(), 160);
        Check.typeBehind(x, "RET\n");
        Check.due("assemble of 161", x.assemble(), -2);
        Check.due("made 160", x.made(160), -1);
        Check.due("made 159", x.made(159), 0);
        CodeLister none = listed(160);
        Check.typeBehind(none, ".byte 7\n");
        Check.due("assemble of 161 with nothing made before", none.assemble(), -2);
        Check.due("made 0", none.made(0), -1);
    }

    private static void tooManyByTheirLastBytes() {
        Check.sentence("else -2 if there would be more than 160");
        for (int size = 158; size <= 160; size++) {
            CodeLister x = listed(size);
            Check.typeBehind(x, "JMP 258\n");
            Check.due("assemble of " + size + " bytes and a JMP", x.assemble(), -2);
            Check.due("made 0", x.made(0), -1);
        }
        for (int size = 159; size <= 160; size++) {
            CodeLister x = listed(size);
            Check.typeBehind(x, "BNZ r1,-2\n");
            Check.due("assemble of " + size + " bytes and a BNZ", x.assemble(), -2);
            Check.due("made 0", x.made(0), -1);
        }
    }

    private static void notRightBeforeTooMany() {
        Check.sentence("-1 if it is not right, else -2 if there would be more than 160.");
        CodeLister x = listed(160);
        Check.due("assemble of 160", x.assemble(), 160);
        String[] pieces = {"R", "E", "T", "\n", "N", "O", "P", "\n", "\n"};
        int[] due = {-1, -1, -1, -2, -1, -1, -1, -2, -1};
        for (int k = 0; k < pieces.length; k++) {
            Check.typeBehind(x, pieces[k]);
            Check.due("assemble behind " + (k + 1) + " characters more", x.assemble(), due[k]);
        }
        CodeLister first = listed(160);
        Check.typeBehind(first, "RET\n");
        first.type(0, 'c');
        Check.due("assemble of 161, the first line not right", first.assemble(), -1);
        Check.due("made 0", first.made(0), -1);
    }

    /** 85 jumps are 510 characters and 255 bytes: all the calls that an object has. */
    private static void farTooMany() {
        Check.sentence("else -2 if there would be more than 160");
        CodeLister x = new CodeLister();
        for (int i = 0; i < 510; i++) {
            x.type(i, "JMP 0\n".charAt(i % 6));
        }
        Check.due("assemble of 255 bytes, the 511th call", x.assemble(), -2);
        Check.due("made 0, the 512th call", x.made(0), -1);
    }

    private static void textStays() {
        Check.sentence("Makes the bytes of the text (which stays");
        CodeLister x = Check.typed("JMP 300\n.byte 7\n");
        Check.due("assemble", x.assemble(), 4);
        Check.due("text", Check.text(x), "JMP 300\n.byte 7\n");
        Check.due("assemble again", x.assemble(), 4);
        Check.due("made again", Check.made(x), "80 1 44 7 ");
    }

    private static void madeBeforeStays() {
        Check.sentence("In both cases what was made before stays.");
        CodeLister x = listed(160);
        Check.due("assemble of 160", x.assemble(), 160);
        Check.typeBehind(x, "NOP\n");
        x.type(0, '.');
        Check.due("not right", x.assemble(), -1);
        x.type(0, 'C');
        x.type(5, '9');
        Check.due("too many", x.assemble(), -2);
        Check.due("made", Check.made(x), Check.bytes(x));
        CodeLister y = Check.typed("NOP\n");
        y.assemble();
        y.type(3, ' ');
        Check.due("not right at its end", y.assemble(), -1);
        Check.due("made before", Check.made(y), "0 ");
    }

    private static void madeOfNone() {
        Check.sentence("-1 if there is none.");
        for (int i : Check.outside(0)) {
            Check.due("made " + i + " of nothing", new CodeLister().made(i), -1);
        }
        CodeLister one = Check.typed("NOP\n");
        Check.due("made 0 before assemble", one.made(0), -1);
        one.assemble();
        Check.due("made 0", one.made(0), 0);
        for (int i : Check.outside(1)) {
            Check.due("made " + i + " of one", one.made(i), -1);
        }
        CodeLister most = listed(160);
        most.assemble();
        Check.due("made 159", most.made(159), 0);
        for (int i : Check.outside(160)) {
            Check.due("made " + i + " of 160", most.made(i), -1);
        }
        most.clear();
        Check.due("made 0 behind clear", most.made(0), -1);
    }

    private static void madeLast() {
        Check.sentence("Byte i of what was made last");
        CodeLister x = Check.typed("LDI r3,255\nRET\n");
        x.assemble();
        Check.due("made", Check.made(x), "35 255 2 ");
        x.type(0, 'H');
        x.type(1, 'A');
        Check.due("made behind type", Check.made(x), "35 255 2 ");
        x.append(0x11000000, 1);
        x.enter(0);
        x.list();
        Check.due("made behind append, enter and list", Check.made(x), "35 255 2 ");
        Check.due("assemble of fewer", x.assemble(), 1);
        Check.due("made of fewer", Check.made(x), "17 ");
        Check.typeBehind(x, "JMP 1\n");
        Check.due("assemble of more", x.assemble(), 4);
        Check.due("made of more", Check.made(x), "17 80 0 1 ");
    }
}
