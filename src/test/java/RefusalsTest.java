/**
 * "A call that is refused changes nothing. Questions change nothing.", for each call that may be refused and each
 * question, with each reason that the document gives; also clear, and the last of an object's calls.
 */
public final class RefusalsTest {
    private static final int[] FAR = {Integer.MIN_VALUE, -65536, -1, 160, 2400, 65536, Integer.MAX_VALUE};

    public static void main(String[] args) {
        appendOfNoSuchCount();
        appendOfTooMany();
        enterOfNoAddress();
        enterOfAnEntry();
        enterOfASeventeenth();
        typeAtNoPlace();
        typeOfNoCharacter();
        assembleOfWhatIsNotRight();
        assembleOfTooMany();
        assembleOfTooManyKeepsTheText();
        refusalsOfANewObject();
        questions();
        questionsOfANewObject();
        questionsTwice();
        changesKeepTheRest();
        clearOfAll();
        clearOfNothing();
        clearAndAgain();
        twoObjects();
        theLastCalls();
        Check.end();
    }

    /** Something of all there is: image, entries, a text that is not the listing, and bytes of another text. */
    private static CodeLister held() {
        CodeLister x = Check.image(16, 81, 0, 6, 1, 255, 2, 80);
        x.enter(5);
        x.enter(0);
        Check.typeBehind(x, "RET\nJMP 7\n");
        Check.due("assemble", x.assemble(), 4);
        x.type(0, 'S');
        return x;
    }

    private static final String HELD =
        "image 16 81 0 6 1 255 2 80 entries 5 0 text SET\nJMP 7\n made 2 80 0 7 ";

    /** What the object answers to each question, and then to what follows from what it holds. */
    private static void isHeld(String what, CodeLister x) {
        Check.due("state behind " + what, Check.state(x), HELD);
        Check.due("reach behind " + what, x.reach(), 5);
        Check.due("body behind " + what, x.body(0), 3);
        Check.due("sweep behind " + what, x.sweep(), 4);
        Check.due("assemble behind " + what, x.assemble(), -1);
        x.type(0, 'R');
        Check.due("assemble of the right text behind " + what, x.assemble(), 4);
        Check.due("list behind " + what, x.list(), "INC r0\nCALL 6\nHALT\n.byte 255\nRET\n.byte 80\n".length());
        Check.due("append behind " + what, x.append(0x07000000, 1), 9);
        Check.due("enter behind " + what, x.enter(8), true);
        Check.due("entries behind " + what, Check.entries(x), "5 0 8 ");
    }

    private static void appendOfNoSuchCount() {
        Check.sentence("A call that is refused changes nothing.");
        for (int count : new int[] {Integer.MIN_VALUE, -1, 0, 5, 257, Integer.MAX_VALUE}) {
            CodeLister x = held();
            Check.due("append of " + count, x.append(-1, count), -1);
            isHeld("append of " + count, x);
        }
    }

    private static void appendOfTooMany() {
        Check.sentence("A call that is refused changes nothing.");
        CodeLister x = Check.image(Check.filledBut(157, 255, 150, 0, 80));
        x.enter(150);
        Check.typeBehind(x, "RET\n");
        x.assemble();
        x.type(0, 'S');
        String before = Check.state(x);
        Check.due("append of four to 157", x.append(0x01020304, 4), -2);
        Check.due("state behind it", Check.state(x), before);
        Check.due("append of three to 157", x.append(0x01020304, 3), 160);
        Check.due("append of one to 160", x.append(0x05000000, 1), -2);
        Check.due("the last bytes", x.byteAt(157) + " " + x.byteAt(158) + " " + x.byteAt(159) + " " + x.byteAt(160), "1 2 3 -1");
        Check.due("reach", x.reach(), 2);
    }

    private static void enterOfNoAddress() {
        Check.sentence("A call that is refused changes nothing.");
        for (int address : Check.outside(8)) {
            CodeLister x = held();
            Check.due("enter " + address, x.enter(address), false);
            isHeld("enter " + address, x);
        }
    }

    private static void enterOfAnEntry() {
        Check.sentence("A call that is refused changes nothing.");
        for (int address : new int[] {0, 5}) {
            CodeLister x = held();
            Check.due("enter " + address, x.enter(address), false);
            isHeld("enter " + address, x);
        }
    }

    private static void enterOfASeventeenth() {
        Check.sentence("A call that is refused changes nothing.");
        CodeLister x = Check.image(Check.filled(20, 255));
        for (int k = 0; k < 16; k++) {
            x.enter(k);
        }
        Check.typeBehind(x, "RET\n");
        x.assemble();
        String before = Check.state(x);
        for (int address : new int[] {16, 19, 0, 15, 20, -1, Integer.MIN_VALUE, Integer.MAX_VALUE}) {
            Check.due("enter " + address, x.enter(address), false);
        }
        Check.due("state behind it", Check.state(x), before);
        Check.due("reach", x.reach(), 16);
        Check.due("reached 16", x.reached(16), false);
        Check.due("append", x.append(0, 4), 24);
        Check.due("entries behind append", Check.entries(x), "0 1 2 3 4 5 6 7 8 9 10 11 12 13 14 15 ");
    }

    private static void typeAtNoPlace() {
        Check.sentence("A call that is refused changes nothing.");
        for (int i : Check.outside(11)) {
            CodeLister x = held();
            Check.due("type at " + i, x.type(i, 'Z'), false);
            isHeld("type at " + i, x);
        }
    }

    private static void typeOfNoCharacter() {
        Check.sentence("A call that is refused changes nothing.");
        for (int c : new int[] {Integer.MIN_VALUE, -256, -1, 256, 346, 65536, Integer.MAX_VALUE}) {
            for (int i : new int[] {0, 9, 10, 11, -1}) {
                CodeLister x = held();
                Check.due("type of " + c + " at " + i, x.type(i, c), false);
                isHeld("type of " + c + " at " + i, x);
            }
        }
    }

    private static void assembleOfWhatIsNotRight() {
        Check.sentence("In both cases what was made before stays.");
        CodeLister x = held();
        Check.due("assemble", x.assemble(), -1);
        isHeld("assemble", x);
        for (int place = 0; place < 10; place++) {
            CodeLister y = held();
            y.type(0, 'R');
            y.type(place, 1);
            String before = Check.state(y);
            Check.due("assemble, not right at " + place, y.assemble(), -1);
            Check.due("state behind it", Check.state(y), before);
        }
    }

    /** 53 calls of three bytes are 371 characters. */
    private static CodeLister calls() {
        int[] bytes = new int[160];
        for (int k = 0; k < 53; k++) {
            bytes[3 * k] = 81;
        }
        CodeLister x = Check.image(bytes);
        x.enter(0);
        x.list();
        return x;
    }

    private static void assembleOfTooMany() {
        Check.sentence("In both cases what was made before stays.");
        CodeLister x = calls();
        Check.due("assemble of 160", x.assemble(), 160);
        Check.typeBehind(x, "RET\n");
        x.type(5, '1');
        Check.due("assemble of 161", x.assemble(), -2);
        String image = Check.bytes(x);
        Check.due("made", Check.made(x), image);
        Check.due("entries", Check.entries(x), "0 ");
        Check.due("textLength", x.textLength(), 379);
    }

    private static void assembleOfTooManyKeepsTheText() {
        Check.sentence("A call that is refused changes nothing.");
        CodeLister x = calls();
        Check.typeBehind(x, "RET\n");
        Check.due("assemble of 161", x.assemble(), -2);
        Check.due("text", Check.text(x), "CALL 0\n".repeat(53) + "NOP\nRET\n");
        Check.due("made", x.made(0), -1);
    }

    private static void refusalsOfANewObject() {
        Check.sentence("A call that is refused changes nothing.");
        CodeLister x = new CodeLister();
        for (int far : FAR) {
            Check.due("append of " + far, x.append(far, far), -1);
            Check.due("enter " + far, x.enter(far), false);
            Check.due("type at " + far, x.type(far, 'A'), false);
            Check.due("type of " + far, x.type(0, far == 160 ? 256 : far), false);
        }
        Check.due("enter 0", x.enter(0), false);
        Check.due("state", Check.state(x), "image entries text  made ");
        Check.due("list", x.list(), 0);
        Check.due("assemble", x.assemble(), 0);
    }

    private static void ask(CodeLister x, int i) {
        x.size();
        x.byteAt(i);
        x.entry(i);
        x.length(i);
        x.reach();
        x.reached(i);
        x.body(i);
        x.sweep();
        x.textLength();
        x.charAt(i);
        x.made(i);
    }

    private static void questions() {
        Check.sentence("Questions change nothing.");
        for (int i : new int[] {Integer.MIN_VALUE, -1, 0, 1, 4, 5, 7, 8, 9, 10, 160, 2400, Integer.MAX_VALUE}) {
            CodeLister x = held();
            ask(x, i);
            isHeld("questions of " + i, x);
        }
    }

    private static void questionsOfANewObject() {
        Check.sentence("Questions change nothing.");
        CodeLister x = new CodeLister();
        for (int i : new int[] {Integer.MIN_VALUE, -1, 0, 1, 160, 2400, Integer.MAX_VALUE}) {
            ask(x, i);
        }
        Check.due("state", Check.state(x), "image entries text  made ");
    }

    private static void questionsTwice() {
        Check.sentence("Questions change nothing.");
        CodeLister x = held();
        for (int round = 0; round < 3; round++) {
            Check.due("reach", x.reach(), 5);
            Check.due("body 6", x.body(6), 1);
            Check.due("reached 6", x.reached(6), true);
            Check.due("body 0", x.body(0), 3);
            Check.due("reached 2", x.reached(2), false);
            Check.due("body -1", x.body(-1), 0);
            Check.due("sweep", x.sweep(), 4);
            Check.due("length 1", x.length(1), 3);
        }
    }

    /** What a call does not name stays as it was. */
    private static void changesKeepTheRest() {
        Check.sentence("Nothing is promised beyond the answers and state changes described above");
        CodeLister x = held();
        x.append(0x09000000, 1);
        Check.due("state behind append", Check.state(x), HELD.replace("80 entries", "80 9 entries"));
        CodeLister y = held();
        y.enter(3);
        Check.due("state behind enter", Check.state(y), HELD.replace("entries 5 0 ", "entries 5 0 3 "));
        CodeLister z = held();
        z.type(10, '!');
        Check.due("state behind type", Check.state(z), HELD.replace("7\n", "7\n!"));
        CodeLister l = held();
        l.list();
        Check.due("state behind list", Check.state(l),
            HELD.replace("SET\nJMP 7\n", "INC r0\nCALL 6\nHALT\n.byte 255\nRET\n.byte 80\n"));
        CodeLister a = held();
        a.type(0, 'R');
        a.type(8, '8');
        Check.due("assemble", a.assemble(), 4);
        Check.due("state behind assemble", Check.state(a), HELD.replace("SET\nJMP 7", "RET\nJMP 8").replace("2 80 0 7", "2 80 0 8"));
    }

    private static void clearOfAll() {
        Check.sentence("Image, entries, text and what was made are gone.");
        CodeLister x = held();
        x.clear();
        Check.due("state", Check.state(x), "image entries text  made ");
        Check.due("reach", x.reach(), 0);
        Check.due("sweep", x.sweep(), 0);
        Check.due("body", x.body(0), 0);
        Check.due("length", x.length(0), 0);
        Check.due("reached", x.reached(0), false);
        Check.due("enter", x.enter(0), false);
        Check.due("type at 1", x.type(1, 'A'), false);
        Check.due("assemble", x.assemble(), 0);
        Check.due("list", x.list(), 0);
        CodeLister full = calls();
        full.assemble();
        full.clear();
        Check.due("state of what was full", Check.state(full), "image entries text  made ");
        Check.due("byteAt 159", full.byteAt(159), -1);
        Check.due("made 159", full.made(159), -1);
        Check.due("charAt 370", full.charAt(370), -1);
    }

    private static void clearOfNothing() {
        Check.sentence("Image, entries, text and what was made are gone.");
        CodeLister x = new CodeLister();
        x.clear();
        Check.due("state", Check.state(x), "image entries text  made ");
        x.clear();
        Check.due("append", x.append(0x01020304, 4), 4);
        Check.due("enter", x.enter(3), true);
    }

    private static void clearAndAgain() {
        Check.sentence("Image, entries, text and what was made are gone.");
        CodeLister x = calls();
        x.assemble();
        x.clear();
        Check.add(x, 80, 0);
        Check.due("length of a JMP whose last byte is gone", x.length(0), 0);
        Check.due("enter", x.enter(0), true);
        Check.due("reach", x.reach(), 1);
        Check.due("list", x.list(), 17);
        Check.due("assemble", x.assemble(), 2);
        Check.due("state", Check.state(x), "image 80 0 entries 0 text .byte 80\n.byte 0\n made 80 0 ");
        x.clear();
        Check.add(x, Check.filled(160, 2));
        Check.due("size of a full image again", x.size(), 160);
        Check.due("append to it", x.append(0, 1), -2);
        Check.due("reach without entries", x.reach(), 0);
    }

    private static void twoObjects() {
        Check.sentence("No image, no entries, no text, nothing made.");
        CodeLister x = held();
        CodeLister other = new CodeLister();
        Check.due("state of the other", Check.state(other), "image entries text  made ");
        other.append(-1, 4);
        other.enter(2);
        other.list();
        other.assemble();
        other.clear();
        isHeld("calls of the other", x);
    }

    private static void theLastCalls() {
        Check.sentence("An object is used for at most 512 calls after it has been made");
        CodeLister x = new CodeLister();
        for (int call = 1; call <= 504; call++) {
            Check.due("append at call " + call, x.append(-1, 4), call <= 40 ? 4 * call : -2);
        }
        Check.due("call 505", x.enter(159), true);
        Check.due("call 506", x.reach(), 1);
        Check.due("call 507", x.list(), 1600);
        Check.due("call 508", x.assemble(), 160);
        Check.due("call 509", x.made(159), 255);
        x.clear();
        Check.due("call 511", x.size(), 0);
        Check.due("call 512", x.type(0, 255), true);
    }
}
