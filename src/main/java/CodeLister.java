/**
 * Lists the code in a memory image that holds instructions and data mixed, and assembles a listing
 * again. All rows are made once with the object, so that no call makes anything.
 */
public final class CodeLister {
    private static final int MOST_BYTES = 160;
    private static final int MOST_ENTRIES = 16;
    private static final int MOST_CHARACTERS = 2400;
    private static final int MOST_BYTES_AT_ONCE = 4;

    private static final int NONE = -1;
    private static final int NO_SUCH_COUNT = -1;
    private static final int NOT_RIGHT = -1;
    private static final int TOO_MANY = -2;
    private static final char LINE_END = 10;

    private final Image image;
    private final int[] entries;
    private int entryCount;
    private final Walk walk;
    private final Text text;
    private final Assembler assembler;
    private final int[] madeBytes;
    private int madeCount;

    public CodeLister() {
        image = new Image();
        entries = new int[MOST_ENTRIES];
        walk = new Walk();
        text = new Text();
        assembler = new Assembler();
        madeBytes = new int[MOST_BYTES];
    }

    public int append(int w, int count) {
        if (count < 1 || count > MOST_BYTES_AT_ONCE) {
            return NO_SUCH_COUNT;
        }
        if (image.count() + count > MOST_BYTES) {
            return TOO_MANY;
        }
        for (int k = 0; k < count; k++) {
            image.add((w >>> (24 - 8 * k)) & 255);
        }
        return image.count();
    }

    public boolean enter(int address) {
        if (!image.holds(address) || isEntry(address) || entryCount >= MOST_ENTRIES) {
            return false;
        }
        entries[entryCount] = address;
        entryCount++;
        return true;
    }

    public void clear() {
        image.drop();
        entryCount = 0;
        text.drop();
        madeCount = 0;
    }

    public int size() {
        return image.count();
    }

    public int byteAt(int address) {
        return image.at(address);
    }

    public int entry(int k) {
        return k >= 0 && k < entryCount ? entries[k] : NONE;
    }

    public int length(int address) {
        return image.codeLength(address);
    }

    public int reach() {
        walkFromEntries();
        return walk.count();
    }

    public boolean reached(int address) {
        walkFromEntries();
        return walk.cameTo(address);
    }

    public int body(int address) {
        walk.start(image.count());
        walk.comeTo(address);
        walk.follow(image, false);
        return walk.count();
    }

    public int sweep() {
        int instructions = 0;
        int address = 0;
        while (address < image.count()) {
            int step = image.codeLength(address);
            if (step > 0) {
                instructions++;
            }
            address += Math.max(1, step);
        }
        return instructions;
    }

    public int list() {
        walkFromEntries();
        text.drop();
        int address = 0;
        while (address < image.count()) {
            address += Math.max(1, listLine(address));
        }
        return text.count();
    }

    public int textLength() {
        return text.count();
    }

    public int charAt(int i) {
        return text.at(i);
    }

    public boolean type(int i, int c) {
        if (i < 0 || i > text.count() || i >= MOST_CHARACTERS || c < 0 || c > 255) {
            return false;
        }
        text.put(i, (char) c);
        return true;
    }

    public int assemble() {
        if (!assembler.read(text)) {
            return NOT_RIGHT;
        }
        if (assembler.count() > MOST_BYTES) {
            return TOO_MANY;
        }
        madeCount = assembler.count();
        assembler.copyTo(madeBytes);
        return madeCount;
    }

    public int made(int i) {
        return i >= 0 && i < madeCount ? madeBytes[i] : NONE;
    }

    private boolean isEntry(int address) {
        for (int k = 0; k < entryCount; k++) {
            if (entries[k] == address) {
                return true;
            }
        }
        return false;
    }

    private void walkFromEntries() {
        walk.start(image.count());
        for (int k = 0; k < entryCount; k++) {
            walk.comeTo(entries[k]);
        }
        walk.follow(image, true);
    }

    /** Adds the line of an address to the text and answers how many bytes the line stands for. */
    private int listLine(int address) {
        int kind = walk.cameTo(address) ? image.codeKind(address) : NONE;
        if (kind == NONE) {
            text.addLine(Kinds.DATA, 0, image.at(address));
            return 1;
        }
        text.addLine(kind, image.at(address) - Kinds.first(kind), image.number(address, kind));
        return Kinds.bytes(kind);
    }

    /**
     * The kinds of lines by number: the instructions and, last, a byte of data. A line is an opening,
     * then registers, then a number; the first byte of an instruction is a base plus its registers,
     * two bits for each, and the number's bytes stand behind it.
     */
    private static final class Kinds {
        static final int NOP = 0;
        static final int HALT = 1;
        static final int RET = 2;
        static final int INC = 3;
        static final int LDI = 4;
        static final int MOV = 5;
        static final int ADD = 6;
        static final int JMP = 7;
        static final int CALL = 8;
        static final int JZ = 9;
        static final int BNZ = 10;
        static final int LD = 11;
        static final int ST = 12;
        static final int DATA = 13;
        static final int COUNT = 14;

        static final int NO_NUMBER = 0;
        static final int BYTE = 1;
        static final int SIGNED = 2;
        static final int WORD = 3;

        // A column is a kind, in the order of the constants above. Data has no first byte of its own.
        private static final int[] FIRST = {0, 1, 2, 16, 32, 48, 64, 80, 81, 82, 96, 112, 116, 0};
        private static final int[] REGISTERS = {0, 0, 0, 1, 1, 2, 2, 0, 0, 1, 1, 1, 1, 0};
        private static final int[] NUMBER = {
            NO_NUMBER, NO_NUMBER, NO_NUMBER, NO_NUMBER, BYTE, NO_NUMBER, NO_NUMBER,
            WORD, WORD, WORD, SIGNED, WORD, WORD, BYTE
        };

        /** The instruction that a byte begins, or NONE. */
        static int ofFirst(int first) {
            for (int kind = 0; kind < DATA; kind++) {
                int choices = 1 << (2 * REGISTERS[kind]);
                if (first >= FIRST[kind] && first < FIRST[kind] + choices) {
                    return kind;
                }
            }
            return NONE;
        }

        static int first(int kind) {
            return FIRST[kind];
        }

        static int registers(int kind) {
            return REGISTERS[kind];
        }

        static int number(int kind) {
            return NUMBER[kind];
        }

        /** The length of an instruction; data is never asked for it. */
        static int bytes(int kind) {
            switch (NUMBER[kind]) {
                case NO_NUMBER:
                    return 1;
                case WORD:
                    return 3;
                default:
                    return 2;
            }
        }

        static int lowest(int number) {
            return number == SIGNED ? -128 : 0;
        }

        static int highest(int number) {
            switch (number) {
                case SIGNED:
                    return 127;
                case WORD:
                    return 65535;
                default:
                    return 255;
            }
        }

        static boolean fallsThrough(int kind) {
            return kind != HALT && kind != RET && kind != JMP;
        }

        /**
         * The text before the operands. The blank belongs to it, so that no opening begins another
         * one (LD and LDI).
         */
        static String opening(int kind) {
            switch (kind) {
                case NOP:
                    return "NOP";
                case HALT:
                    return "HALT";
                case RET:
                    return "RET";
                case INC:
                    return "INC ";
                case LDI:
                    return "LDI ";
                case MOV:
                    return "MOV ";
                case ADD:
                    return "ADD ";
                case JMP:
                    return "JMP ";
                case CALL:
                    return "CALL ";
                case JZ:
                    return "JZ ";
                case BNZ:
                    return "BNZ ";
                case LD:
                    return "LD ";
                case ST:
                    return "ST ";
                default:
                    return ".byte ";
            }
        }
    }

    /** The bytes at their addresses, and what instructions they are. */
    private static final class Image {
        private final int[] bytes;
        private int count;

        Image() {
            bytes = new int[MOST_BYTES];
        }

        int count() {
            return count;
        }

        boolean holds(int address) {
            return address >= 0 && address < count;
        }

        int at(int address) {
            return holds(address) ? bytes[address] : NONE;
        }

        void add(int b) {
            if (count < MOST_BYTES) {
                bytes[count] = b;
                count++;
            }
        }

        void drop() {
            count = 0;
        }

        /** The instruction that begins at an address and lies within the image, or NONE. */
        int codeKind(int address) {
            int kind = Kinds.ofFirst(at(address));
            return kind != NONE && Kinds.bytes(kind) <= count - address ? kind : NONE;
        }

        int codeLength(int address) {
            int kind = codeKind(address);
            return kind == NONE ? 0 : Kinds.bytes(kind);
        }

        /** The number behind the first byte of an instruction of this kind; 0 if it has none. */
        int number(int address, int kind) {
            switch (Kinds.number(kind)) {
                case Kinds.BYTE:
                    return at(address + 1);
                case Kinds.SIGNED:
                    return (byte) at(address + 1);
                case Kinds.WORD:
                    return 256 * at(address + 1) + at(address + 2);
                default:
                    return 0;
            }
        }
    }

    /** The addresses that some come to by successors, in the order in which they are found. */
    private static final class Walk {
        private final int[] found;
        private final boolean[] isFound;
        private int addresses;
        private int count;

        Walk() {
            found = new int[MOST_BYTES];
            isFound = new boolean[MOST_BYTES];
        }

        int count() {
            return count;
        }

        void start(int addressCount) {
            for (int address = 0; address < MOST_BYTES; address++) {
                isFound[address] = false;
            }
            addresses = Math.min(addressCount, MOST_BYTES);
            count = 0;
        }

        boolean cameTo(int address) {
            return address >= 0 && address < addresses && isFound[address];
        }

        void comeTo(int address) {
            if (address >= 0 && address < addresses && !isFound[address] && count < MOST_BYTES) {
                isFound[address] = true;
                found[count] = address;
                count++;
            }
        }

        /** What is found on the way is added behind, so that the loop comes to it as well. */
        void follow(Image image, boolean intoCalls) {
            for (int k = 0; k < count && k < MOST_BYTES; k++) {
                comeToSuccessors(image, found[k], intoCalls);
            }
        }

        private void comeToSuccessors(Image image, int address, boolean intoCalls) {
            int kind = image.codeKind(address);
            if (kind == NONE) {
                return;
            }
            int next = address + Kinds.bytes(kind);
            if (Kinds.fallsThrough(kind)) {
                comeTo(next);
            }
            if (kind == Kinds.BNZ) {
                comeTo(next + image.number(address, kind));
            }
            if (kind == Kinds.JMP || kind == Kinds.JZ || kind == Kinds.CALL && intoCalls) {
                comeTo(image.number(address, kind));
            }
        }
    }

    /**
     * The row of characters. Lines are written at its end; it is read at a place that goes forward,
     * and what is not as it must be there makes the whole not right.
     */
    private static final class Text {
        // As many as the greatest number has: a digit more then stands where another character is due.
        private static final int MOST_DIGITS = 5;

        private final char[] characters;
        private int count;
        private int place;
        private boolean right;

        Text() {
            characters = new char[MOST_CHARACTERS];
        }

        int count() {
            return count;
        }

        int at(int i) {
            return i >= 0 && i < count ? characters[i] : NONE;
        }

        void drop() {
            count = 0;
        }

        void put(int i, char c) {
            if (i >= 0 && i <= count && i < MOST_CHARACTERS) {
                characters[i] = c;
                count = Math.max(count, i + 1);
            }
        }

        /** The registers are given as in a first byte: two bits for each, the last one lowest. */
        void addLine(int kind, int registers, int number) {
            String opening = Kinds.opening(kind);
            for (int k = 0; k < opening.length(); k++) {
                add(opening.charAt(k));
            }
            int registerCount = Kinds.registers(kind);
            for (int k = 0; k < registerCount; k++) {
                addComma(k);
                add('r');
                addDigit((registers >> (2 * (registerCount - 1 - k))) & 3);
            }
            if (Kinds.number(kind) != Kinds.NO_NUMBER) {
                addComma(registerCount);
                addNumber(number);
            }
            add(LINE_END);
        }

        private void add(char c) {
            put(count, c);
        }

        private void addComma(int operandsBefore) {
            if (operandsBefore > 0) {
                add(',');
            }
        }

        private void addDigit(int digit) {
            add((char) ('0' + digit));
        }

        private void addNumber(int number) {
            if (number < 0) {
                add('-');
            }
            int amount = Math.abs(number);
            for (int unit = 10000; unit > 0; unit /= 10) {
                if (amount >= unit || unit == 1) {
                    addDigit(amount / unit % 10);
                }
            }
        }

        void startReading() {
            place = 0;
            right = true;
        }

        boolean isRight() {
            return right;
        }

        boolean hasMore() {
            return right && place < count;
        }

        void take(char due) {
            if (at(place) == due) {
                place++;
            } else {
                right = false;
            }
        }

        void takeComma(int operandsBefore) {
            if (operandsBefore > 0) {
                take(',');
            }
        }

        /** Takes the opening of a line: its kind, or NONE if it is that of no kind. */
        int takeKind() {
            for (int kind = 0; kind < Kinds.COUNT; kind++) {
                String opening = Kinds.opening(kind);
                if (goesOnWith(opening)) {
                    place += opening.length();
                    return kind;
                }
            }
            right = false;
            return NONE;
        }

        private boolean goesOnWith(String part) {
            for (int k = 0; k < part.length(); k++) {
                if (at(place + k) != part.charAt(k)) {
                    return false;
                }
            }
            return true;
        }

        int takeRegister() {
            take('r');
            int register = at(place) - '0';
            if (register < 0 || register > 3) {
                right = false;
                return 0;
            }
            place++;
            return register;
        }

        int takeNumber(int lowest, int highest) {
            boolean negative = at(place) == '-';
            if (negative) {
                place++;
            }
            int amount = takeAmount();
            int number = negative ? -amount : amount;
            if (negative && amount == 0 || number < lowest || number > highest) {
                right = false;
            }
            return number;
        }

        private int takeAmount() {
            int begin = place;
            int amount = 0;
            for (int k = 0; k < MOST_DIGITS && isDigit(at(place)); k++) {
                amount = 10 * amount + at(place) - '0';
                place++;
            }
            int digits = place - begin;
            if (digits == 0 || digits > 1 && at(begin) == '0') {
                right = false;
            }
            return amount;
        }

        private static boolean isDigit(int c) {
            return c >= '0' && c <= '9';
        }
    }

    /** The bytes of a text's lines. They are kept apart from what was made before, which may have to stay. */
    private static final class Assembler {
        private final int[] bytes;
        private int count;

        Assembler() {
            bytes = new int[MOST_BYTES];
        }

        /** How many bytes the text stands for; those that are too many are counted and not kept. */
        int count() {
            return count;
        }

        void copyTo(int[] target) {
            System.arraycopy(bytes, 0, target, 0, Math.min(target.length, Math.min(count, MOST_BYTES)));
        }

        /** Reads the whole text, also behind too many bytes: whether it is right. */
        boolean read(Text text) {
            count = 0;
            text.startReading();
            for (int line = 0; line < MOST_CHARACTERS && text.hasMore(); line++) {
                readLine(text);
            }
            return text.isRight();
        }

        private void readLine(Text text) {
            int kind = text.takeKind();
            if (kind == NONE) {
                return;
            }
            int registers = readRegisters(text, kind);
            int number = readNumber(text, kind);
            text.take(LINE_END);
            addBytes(kind, registers, number);
        }

        private static int readRegisters(Text text, int kind) {
            int registers = 0;
            for (int k = 0; k < Kinds.registers(kind); k++) {
                text.takeComma(k);
                registers = 4 * registers + text.takeRegister();
            }
            return registers;
        }

        private static int readNumber(Text text, int kind) {
            int number = Kinds.number(kind);
            if (number == Kinds.NO_NUMBER) {
                return 0;
            }
            text.takeComma(Kinds.registers(kind));
            return text.takeNumber(Kinds.lowest(number), Kinds.highest(number));
        }

        private void addBytes(int kind, int registers, int number) {
            if (kind != Kinds.DATA) {
                addByte(Kinds.first(kind) + registers);
            }
            if (Kinds.number(kind) == Kinds.WORD) {
                addByte(number >> 8);
            }
            if (Kinds.number(kind) != Kinds.NO_NUMBER) {
                addByte(number & 255);
            }
        }

        private void addByte(int b) {
            if (count < MOST_BYTES) {
                bytes[count] = b;
            }
            count++;
        }
    }
}
