import java.util.Arrays;
import java.util.TreeSet;

/** Entries and what they come to at their edges: one method for one sentence (terms, promises 3, 7, 9, 10 and 11). */
public final class EntryEdgesTest {
    private static final int DATA = 255;

    public static void main(String[] args) {
        enterCodeOrNot();
        enterNotInTheImage();
        enterTwice();
        enterSixteen();
        enterSixteenAgain();
        entryOrder();
        entryOfNone();
        reachOfNothing();
        reachOfAll();
        reachedOfNone();
        noSuccessorsOfData();
        noSuccessorsOfCutOffInstructions();
        fallingOutOfTheImage();
        fallingNowhere();
        jumpsOutOfASmallImage();
        jumpsOutOfAFullImage();
        branchesOutOfTheImage();
        numbersThatAreNoAddresses();
        goingInRounds();
        bodyOfNone();
        bodyItselfIncluded();
        bodyNotIntoCalls();
        bodyAsksNoEntries();
        Check.end();
    }

    private static void enterCodeOrNot() {
        Check.sentence("Makes an address (code or not) an entry");
        CodeLister x = Check.image(82, 0, 255, 80);
        Check.due("code", x.enter(0), true);
        Check.due("within an instruction", x.enter(1), true);
        Check.due("data", x.enter(2), true);
        Check.due("an instruction that is cut off, the last address", x.enter(3), true);
        Check.due("entries", Check.entries(x), "0 1 2 3 ");
        CodeLister full = Check.image(Check.filled(160, DATA));
        Check.due("the last of a full image", full.enter(159), true);
        Check.due("the first of a full image", full.enter(0), true);
    }

    private static void enterNotInTheImage() {
        Check.sentence("false if it is not in the image");
        for (int size : new int[] {0, 1, 4, 159, 160}) {
            CodeLister x = Check.image(Check.filled(size, 0));
            for (int address : Check.outside(size)) {
                Check.due("enter " + address + " of " + size, x.enter(address), false);
            }
            Check.due("entries of " + size, Check.entries(x), "");
        }
        CodeLister x = Check.image(0);
        Check.due("enter 1 of one byte", x.enter(1), false);
        x.append(0, 1);
        Check.due("enter 1 of two bytes", x.enter(1), true);
        x.clear();
        Check.due("enter 0 behind clear", x.enter(0), false);
    }

    private static void enterTwice() {
        Check.sentence("is one already");
        CodeLister x = Check.image(Check.filled(20, 0));
        for (int k = 0; k < 15; k++) {
            Check.due("enter " + k, x.enter(k), true);
            Check.due("enter " + k + " again", x.enter(k), false);
            Check.due("enter 0 again", x.enter(0), false);
        }
        Check.due("entries", Check.entries(x), "0 1 2 3 4 5 6 7 8 9 10 11 12 13 14 ");
        Check.due("another one", x.enter(19), true);
    }

    private static CodeLister sixteenEntries() {
        CodeLister x = Check.image(Check.filled(160, DATA));
        for (int k = 0; k < 16; k++) {
            Check.due("enter " + (159 - 10 * k), x.enter(159 - 10 * k), true);
        }
        return x;
    }

    private static void enterSixteen() {
        Check.sentence("or there are 16.");
        CodeLister x = sixteenEntries();
        String before = Check.entries(x);
        Check.due("a seventeenth", x.enter(0), false);
        Check.due("the first once more", x.enter(159), false);
        Check.due("the last once more", x.enter(9), false);
        for (int address : Check.outside(160)) {
            Check.due("enter " + address, x.enter(address), false);
        }
        Check.due("entries", Check.entries(x), before);
        Check.due("reach", x.reach(), 16);
        Check.due("reached what was refused", x.reached(0), false);
    }

    private static void enterSixteenAgain() {
        Check.sentence("Image, entries, text and what was made are gone.");
        CodeLister x = sixteenEntries();
        x.clear();
        Check.add(x, Check.filled(17, DATA));
        for (int k = 0; k < 16; k++) {
            Check.due("enter " + k + " behind clear", x.enter(k), true);
        }
        Check.due("a seventeenth behind clear", x.enter(16), false);
    }

    private static void entryOrder() {
        Check.sentence("Entry k in the order in which they were made (0 the first)");
        CodeLister x = sixteenEntries();
        for (int k = 0; k < 16; k++) {
            Check.due("entry " + k, x.entry(k), 159 - 10 * k);
        }
        CodeLister y = Check.image(0, 0, 0, 0);
        y.enter(2);
        y.enter(4);
        y.enter(2);
        y.enter(0);
        y.enter(3);
        Check.due("entries with refusals between", Check.entries(y), "2 0 3 ");
    }

    private static void entryOfNone() {
        Check.sentence("-1 if there is none.");
        CodeLister x = Check.image(0, 0, 0);
        for (int count = 0; count <= 3; count++) {
            for (int k : Check.outside(count)) {
                Check.due("entry " + k + " of " + count, x.entry(k), -1);
            }
            x.enter(count);
        }
        CodeLister full = sixteenEntries();
        for (int k : Check.outside(16)) {
            Check.due("entry " + k + " of 16", full.entry(k), -1);
        }
        full.clear();
        Check.due("entry 0 behind clear", full.entry(0), -1);
        full.append(0, 1);
        Check.due("entry 0 behind clear and append", full.entry(0), -1);
    }

    private static void reachOfNothing() {
        Check.sentence("How many addresses are reached.");
        Check.due("no image", new CodeLister().reach(), 0);
        Check.due("a full image without entries", Check.image(Check.filled(160, 0)).reach(), 0);
        CodeLister x = Check.image(0, 0, 0);
        Check.due("a refused entry", x.enter(3), false);
        Check.due("reach behind it", x.reach(), 0);
        x.append(0, 1);
        Check.due("reach when there is such an address", x.reach(), 0);
        x.enter(0);
        Check.due("reach from 0", x.reach(), 4);
        x.clear();
        Check.due("reach behind clear", x.reach(), 0);
        x.append(0, 4);
        Check.due("reach behind clear and append", x.reach(), 0);
    }

    private static void reachOfAll() {
        Check.sentence("The REACHED addresses are those entered and all that come from them by successors, one after the other.");
        CodeLister x = Check.image(Check.filled(160, 0));
        x.enter(0);
        Check.due("falling through a full image", x.reach(), 160);
        x.enter(159);
        x.enter(80);
        Check.due("with entries that are reached already", x.reach(), 160);
        CodeLister last = Check.image(Check.filled(160, 0));
        last.enter(159);
        Check.due("from the last address", last.reach(), 1);
        last.enter(158);
        Check.due("and from that before it", last.reach(), 2);
        CodeLister back = new CodeLister();
        // Two branches a call, each of which goes back to the one before it.
        for (int k = 0; k < 40; k++) {
            back.append(0x60FC60FC, 4);
        }
        back.enter(158);
        Check.due("going back through a full image", back.reach(), 80);
        Check.due("sixteen entries that are data", sixteenEntries().reach(), 16);
    }

    private static void reachedOfNone() {
        Check.sentence("Whether an address is reached; false if there is no such address.");
        for (int size : new int[] {0, 1, 159, 160}) {
            CodeLister x = Check.image(Check.filled(size, 0));
            x.enter(0);
            for (int address : Check.outside(size)) {
                Check.due("reached " + address + " of " + size, x.reached(address), false);
            }
            if (size > 0) {
                Check.due("the first of " + size, x.reached(0), true);
                Check.due("the last of " + size, x.reached(size - 1), true);
            }
        }
        CodeLister shorter = Check.image(0, 0, 0, 0);
        shorter.enter(0);
        Check.due("reached 3", shorter.reached(3), true);
        shorter.clear();
        Check.due("reached 3 behind clear", shorter.reached(3), false);
        shorter.append(0, 2);
        shorter.enter(0);
        Check.due("reached 3 of two bytes", shorter.reached(3), false);
        Check.due("reached 1 of two bytes", shorter.reached(1), true);
    }

    /** Enters an address and asks for each address whether it is reached, and how many are. */
    private static void reaches(String what, int[] image, int entry, int... due) {
        CodeLister x = Check.image(image);
        x.enter(entry);
        TreeSet<Integer> want = new TreeSet<>();
        for (int address : due) {
            if (address >= 0 && address < image.length) {
                want.add(address);
            }
        }
        TreeSet<Integer> got = new TreeSet<>();
        for (int address = 0; address < image.length; address++) {
            if (x.reached(address)) {
                got.add(address);
            }
        }
        Check.due("reached, " + what, got, want);
        Check.due("reach, " + what, x.reach(), want.size());
    }

    private static void noSuccessorsOfData() {
        Check.sentence("an address that is not code has none");
        for (int first = 0; first < 256; first++) {
            int[] image = {0, 0, first, 0, 0, 0};
            if (Check.image(image).length(2) == 0) {
                reaches("data " + first, image, 2, 2);
                Check.due("body of data " + first, Check.image(image).body(2), 1);
            }
        }
    }

    private static void noSuccessorsOfCutOffInstructions() {
        Check.sentence("an address that is not code has none");
        int[] firstOfThree = {80, 81, 82, 85, 112, 115, 116, 119};
        for (int first : firstOfThree) {
            reaches(first + " without two bytes", new int[] {0, 0, first}, 2, 2);
            reaches(first + " without its last byte", new int[] {0, 0, first, 0}, 2, 2);
            reaches(first + " in a full image", Check.filledBut(160, 0, 158, first), 158, 158);
        }
        for (int first : new int[] {32, 35, 96, 99}) {
            reaches(first + " without its byte", new int[] {0, 0, first}, 2, 2);
            reaches(first + " in a full image", Check.filledBut(160, 0, 159, first), 159, 159);
        }
        CodeLister x = Check.image(80, 0);
        x.enter(0);
        Check.due("reach of a cut off jump", x.reach(), 1);
        x.append(0x04000000, 1);
        Check.due("whole, and out of the image", x.reach(), 1);
        x.append(0, 2);
        Check.due("whole, and into the image", x.reach(), 2);
    }

    private static void fallingOutOfTheImage() {
        Check.sentence("Its SUCCESSORS are the addresses of the image at which it goes on");
        for (int first : new int[] {0, 16, 19, 48, 63, 64, 79}) {
            reaches(first + " at the last byte", new int[] {0, 0, first}, 2, 2);
            reaches(first + " at a full image's last byte", Check.filledBut(160, 0, 159, first), 159, 159);
        }
        for (int first : new int[] {32, 35}) {
            reaches(first + " in the last bytes", new int[] {0, 0, first, 1}, 2, 2);
            reaches(first + " in a full image's last bytes", Check.filledBut(160, 0, 158, first), 158, 158);
        }
        for (int first : new int[] {112, 115, 116, 119}) {
            reaches(first + " in the last bytes", new int[] {0, 0, first, 0, 1}, 2, 2);
            reaches(first + " in a full image's last bytes", Check.filledBut(160, 0, 157, first), 157, 157);
        }
    }

    private static void fallingNowhere() {
        Check.sentence("1: 1, \"HALT\", nowhere      2: 1, \"RET\", nowhere");
        reaches("HALT", new int[] {0, 1, 0}, 1, 1);
        reaches("RET", new int[] {0, 2, 0}, 1, 1);
        reaches("NOP, HALT", new int[] {0, 1, 0}, 0, 0, 1);
        reaches("NOP, RET", new int[] {0, 2, 0}, 0, 0, 1);
        reaches("HALT at a full image's last byte", Check.filledBut(160, 0, 159, 1), 159, 159);
    }

    /** One instruction at an address, data all around: what it goes on at is what is reached. */
    private static void jumps(int size, int address, int first, int w) {
        int[] image = Check.filledBut(size, DATA, address, first, w >> 8, w & 255);
        int next = first == 80 ? -1 : address + 3;
        String what = first + " to " + w + " at " + address + " of " + size;
        reaches(what, image, address, address, next, w);
        int callTarget = first == 81 ? -1 : w;
        TreeSet<Integer> body = new TreeSet<>();
        for (int at : new int[] {address, next, callTarget}) {
            if (at >= 0 && at < size) {
                body.add(at);
            }
        }
        Check.due("body, " + what, Check.image(image).body(address), body.size());
    }

    private static void jumpsOutOfASmallImage() {
        Check.sentence("80: 3, \"JMP w\", at w      81: 3, \"CALL w\", next and at w");
        for (int first = 80; first <= 85; first++) {
            for (int w : new int[] {0, 7, 8, 9, 127, 128, 255, 256, 257, 263, 32767, 32768, 65280, 65535}) {
                jumps(8, 0, first, w);
                jumps(8, 3, first, w);
                jumps(8, 5, first, w);
            }
            jumps(3, 0, first, 0);
            jumps(3, 0, first, 2);
            jumps(3, 0, first, 3);
        }
    }

    private static void jumpsOutOfAFullImage() {
        Check.sentence("Its SUCCESSORS are the addresses of the image at which it goes on");
        for (int first = 80; first <= 85; first++) {
            for (int w : new int[] {0, 127, 128, 156, 159, 160, 161, 255, 256, 415, 416, 32768, 65535}) {
                jumps(160, 0, first, w);
                jumps(160, 157, first, w);
            }
        }
    }

    private static void branchesOutOfTheImage() {
        Check.sentence("96 + r: 2, \"BNZ r,s\", next and at next + s");
        for (int u = 0; u < 256; u++) {
            int s = u < 128 ? u : u - 256;
            for (int address : new int[] {0, 30, 31, 125, 126, 157, 158}) {
                int next = address + 2;
                int[] image = Check.filledBut(160, DATA, address, 96 + u % 4, u);
                reaches("BNZ " + s + " at " + address, image, address, address, next, next + s);
            }
            int[] small = {DATA, DATA, 96 + u % 4, u, DATA, DATA};
            reaches("BNZ " + s + " in six bytes", small, 2, 2, 4, 4 + s);
        }
    }

    private static void numbersThatAreNoAddresses() {
        Check.sentence("112 + r: 3, \"LD r,w\", next      116 + r: 3, \"ST r,w\", next.");
        for (int first = 112; first <= 119; first++) {
            reaches(first + " of an address", new int[] {0, first, 0, 0, DATA, 0}, 1, 1, 4);
        }
        for (int first = 32; first <= 35; first++) {
            reaches(first + " of an address", new int[] {0, first, 0, DATA, 0}, 1, 1, 3);
        }
    }

    private static void goingInRounds() {
        Check.sentence("all that come from them by successors, one after the other");
        reaches("JMP to itself", new int[] {80, 0, 0, 0}, 0, 0);
        reaches("JMP to the other and back", new int[] {80, 0, 3, 80, 0, 0, 0}, 3, 0, 3);
        reaches("BNZ to itself", new int[] {96, 254, 1, 0}, 0, 0, 2);
        reaches("BNZ to next", new int[] {96, 0, 1, 0}, 0, 0, 2);
        reaches("BNZ to its own byte", new int[] {96, 255, 1, 0}, 0, 0, 1, 2);
        reaches("CALL of itself", new int[] {81, 0, 0, 1, 0}, 0, 0, 3);
        reaches("JZ to its own bytes", new int[] {82, 0, 1, 1, 0}, 0, 0, 1, 2, 3);
    }

    private static void bodyOfNone() {
        Check.sentence("0 if there is no such address.");
        for (int size : new int[] {0, 1, 159, 160}) {
            CodeLister x = Check.image(Check.filled(size, 0));
            x.enter(0);
            for (int address : Check.outside(size)) {
                Check.due("body " + address + " of " + size, x.body(address), 0);
            }
        }
        CodeLister x = Check.image(0, 0);
        x.clear();
        Check.due("body 0 behind clear", x.body(0), 0);
        x.append(0, 1);
        Check.due("body 1, which was there before clear", x.body(1), 0);
        Check.due("body 0 of one byte", x.body(0), 1);
    }

    private static void bodyItselfIncluded() {
        Check.sentence("How many addresses come from one address (itself included)");
        CodeLister full = Check.image(Check.filled(160, 0));
        for (int address : new int[] {0, 1, 80, 158, 159}) {
            Check.due("body " + address + " of a full image", full.body(address), 160 - address);
        }
        Check.due("HALT", Check.image(1, 0).body(0), 1);
        Check.due("data", Check.image(DATA, 0).body(0), 1);
        Check.due("a jump that is cut off", Check.image(80, 0).body(0), 1);
        Check.due("a jump out of the image", Check.image(80, 0, 3).body(0), 1);
        Check.due("a jump to itself", Check.image(80, 0, 0).body(0), 1);
        Check.due("a branch before the image", Check.image(96, 253).body(0), 1);
        Check.due("a branch to the first byte", Check.image(96, 254).body(0), 1);
    }

    private static void bodyNotIntoCalls() {
        Check.sentence("if a CALL goes on at next only");
        Check.due("CALL", Check.image(81, 0, 4, 1, 1).body(0), 2);
        Check.due("CALL in the last bytes", Check.image(1, 81, 0, 0).body(1), 1);
        Check.due("CALL out of the image", Check.image(81, 255, 255, 1).body(0), 2);
        Check.due("CALL of what a JMP comes to as well", Check.image(81, 0, 6, 80, 0, 6, 1).body(0), 3);
        Check.due("CALL behind a JMP", Check.image(80, 0, 4, 1, 81, 0, 3, 1).body(0), 3);
        Check.due("what is called", Check.image(81, 0, 4, 1, 0, 2).body(4), 2);
        int[] calls = new int[159];
        for (int k = 0; k < 53; k++) {
            calls[3 * k] = 81;
            calls[3 * k + 2] = 158;
        }
        CodeLister x = Check.image(calls);
        Check.due("fifty-three calls", x.body(0), 53);
        x.enter(0);
        Check.due("reach goes into them", x.reach(), 54);
        Check.due("body again", x.body(0), 53);
    }

    private static void bodyAsksNoEntries() {
        Check.sentence("Questions change nothing.");
        CodeLister x = Check.image(1, 0, 0, 1);
        Check.due("body without entries", x.body(1), 3);
        Check.due("it enters nothing", x.reach(), 0);
        x.enter(0);
        Check.due("body with an entry", x.body(1), 3);
        Check.due("reach", x.reach(), 1);
        Check.due("body of an entry", x.body(0), 1);
        Check.due("body of no address", x.body(4), 0);
        Check.due("reached", Arrays.asList(x.reached(0), x.reached(1), x.reached(3)), Arrays.asList(true, false, false));
    }
}
