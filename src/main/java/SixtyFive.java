import java.util.NoSuchElementException;

/** An eight-bit processor with a kilobyte of memory, a drive with sectors, and a key. */
public final class SixtyFive {
    private static final int ADDRESSES = 1024;
    private static final int FIRST_PROTECTED = 960;
    private static final int FIRST_CELL = 1008;
    private static final int STACK = 256;
    private static final int FIRST_PC = 512;

    private static final int SECTORS = 8;
    private static final int SECTOR_SIZE = 32;
    private static final int SECTOR_WINDOW = 768;

    private static final int CELL_KEY_LOOK = 1008;
    private static final int CELL_KEY_TAKE = 1009;
    private static final int CELL_SECTOR_NUMBER = 1010;
    private static final int CELL_SECTOR_READ = 1011;
    private static final int CELL_SECTOR_WRITE = 1012;

    private static final int KEY_MARK = 128;
    private static final int MOST_BYTES = 8;
    private static final int MOST_INSTRUCTIONS = 20;

    private static final int REGISTER_PC = 4;
    private static final int REGISTER_FLAGS = 5;

    private static final int FAULT_NONE = 0;
    private static final int FAULT_STOP = 1;
    private static final int FAULT_PROTECTED = 2;
    private static final int FAULT_SECTOR = 3;
    private static final int FAULT_UNKNOWN = 4;

    // The first eight bear the number M that stands for them in the codes of G 1.
    private static final int INX = 0;
    private static final int ZERO = 1;
    private static final int NEXT = 2;
    private static final int WIDE = 3;
    private static final int INY = 4;
    private static final int ZEROX = 5;
    private static final int WIDEY = 6;
    private static final int WIDEX = 7;
    private static final int ZEROY = 8;
    private static final int SELF = 9;
    private static final int ALONE = 10;
    private static final int NO = 11;

    private static final int CODE_STOP = 0;
    private static final int CODE_CALL = 32;
    private static final int CODE_JUMP = 76;
    private static final int CODE_JUMP_THROUGH = 108;
    private static final int CODE_STORE_NEXT = 137;

    // A row for each K, a column for each M; code 0 is looked at before this table is.
    private static final int[] MODES_OF_G0 = {
        NO,    NO,   ALONE, NO,   NEXT, NO,    ALONE, NO,
        WIDE,  ZERO, ALONE, WIDE, NEXT, NO,    ALONE, NO,
        NO,    NO,   ALONE, WIDE, NEXT, NO,    NO,    NO,
        ALONE, NO,   ALONE, WIDE, NEXT, NO,    NO,    NO,
        NO,    ZERO, ALONE, WIDE, NEXT, ZEROX, ALONE, NO,
        NEXT,  ZERO, ALONE, WIDE, NEXT, ZEROX, ALONE, WIDEX,
        NEXT,  ZERO, ALONE, WIDE, NEXT, NO,    NO,    NO,
        NEXT,  ZERO, ALONE, WIDE, NEXT, NO,    NO,    NO
    };

    private static final int[] MODES_OF_G2 = {
        NO,    ZERO, SELF,  WIDE, NO,   ZEROX, NO,    WIDEX,
        NO,    ZERO, SELF,  WIDE, NO,   ZEROX, NO,    WIDEX,
        NO,    ZERO, SELF,  WIDE, NO,   ZEROX, NO,    WIDEX,
        NO,    ZERO, SELF,  WIDE, NO,   ZEROX, NO,    WIDEX,
        NO,    ZERO, SELF,  WIDE, NO,   ZEROY, ALONE, NO,
        NEXT,  ZERO, SELF,  WIDE, NO,   ZEROY, ALONE, WIDEY,
        NO,    ZERO, SELF,  WIDE, NO,   ZEROX, NO,    WIDEX,
        NO,    ZERO, SELF,  WIDE, NO,   ZEROX, NO,    WIDEX
    };

    private final Processor processor;
    private final Board board;
    private int done;
    private int latestFault;

    public SixtyFive() {
        processor = new Processor();
        board = processor.board;
        done = 0;
        latestFault = FAULT_NONE;
    }

    public int load(int address, long bytes, int count) throws IllegalArgumentException {
        demand(isSpan(address, count, FIRST_CELL));
        spread(board.memory, address, bytes, count);
        return address + count;
    }

    public int insert(int sector, int at, long bytes, int count) throws IllegalArgumentException {
        demand(isWithin(sector, SECTORS - 1) && isSpan(at, count, SECTOR_SIZE));
        spread(board.drive, sector * SECTOR_SIZE + at, bytes, count);
        return at + count;
    }

    public int put(int register, int value) throws IllegalArgumentException {
        demand(isWithin(register, REGISTER_FLAGS));
        demand(isWithin(value, register == REGISTER_PC ? ADDRESSES - 1 : 255));
        int before = processor.register(register);
        processor.setRegister(register, value);
        return before;
    }

    public int press(int code) throws IllegalArgumentException, IllegalStateException {
        demand(isWithin(code, KEY_MARK - 1));
        if (board.key != 0) {
            throw new IllegalStateException("there is a key");
        }
        board.key = KEY_MARK + code;
        return board.key;
    }

    public boolean protect(boolean on) {
        boolean before = board.isProtected;
        board.isProtected = on;
        return before;
    }

    public int run(int n) throws IllegalArgumentException, IllegalStateException,
            UnsupportedOperationException, IndexOutOfBoundsException, NoSuchElementException {
        demand(n >= 1 && n <= MOST_INSTRUCTIONS);
        for (int i = 0; i < n; i++) {
            int fault = processor.step();
            if (fault != FAULT_NONE) {
                latestFault = fault;
                raise(fault);
            }
            done++;
        }
        return processor.pc;
    }

    public int peek(int address) throws IllegalArgumentException {
        demand(isWithin(address, FIRST_CELL - 1));
        return board.memory[address];
    }

    public int get(int what) throws IllegalArgumentException {
        demand(isWithin(what, 9));
        switch (what) {
            case 6:
                return done;
            case 7:
                return board.key;
            case 8:
                return board.sectorNumber;
            case 9:
                return latestFault;
            default:
                return processor.register(what);
        }
    }

    public int sector(int sector, int at) throws IllegalArgumentException {
        demand(isWithin(sector, SECTORS - 1) && isWithin(at, SECTOR_SIZE - 1));
        return board.drive[sector * SECTOR_SIZE + at];
    }

    private static void demand(boolean inRange) {
        if (!inRange) {
            throw new IllegalArgumentException("a number is out of range");
        }
    }

    private static boolean isWithin(int number, int last) {
        return number >= 0 && number <= last;
    }

    private static boolean isSpan(int first, int count, int end) {
        return isWithin(first, end - 1) && count >= 1 && count <= MOST_BYTES && first + count <= end;
    }

    private static void spread(int[] row, int from, long bytes, int count) {
        for (int i = 0; i < count; i++) {
            row[from + i] = (int) (bytes >>> (8 * (count - 1 - i))) & 255;
        }
    }

    private static void raise(int fault) {
        switch (fault) {
            case FAULT_STOP:
                throw new IllegalStateException("code 0");
            case FAULT_PROTECTED:
                throw new UnsupportedOperationException("a write into protected memory");
            case FAULT_SECTOR:
                throw new IndexOutOfBoundsException("no such sector");
            default:
                throw new NoSuchElementException("no such instruction");
        }
    }

    /** What the processor reads and writes: the memory, and the cells with the key and the drive. */
    private static final class Board {
        private final int[] memory;
        private final int[] drive;
        private int key;
        private int sectorNumber;
        private boolean isProtected;

        private Board() {
            memory = new int[ADDRESSES];
            drive = new int[SECTORS * SECTOR_SIZE];
            key = 0;
            sectorNumber = 0;
            isProtected = false;
        }

        private int readByte(int number) {
            int address = number & (ADDRESSES - 1);
            if (address < FIRST_CELL) {
                return memory[address];
            }
            switch (address) {
                case CELL_KEY_LOOK:
                    return key;
                case CELL_KEY_TAKE:
                    int taken = key;
                    key = 0;
                    return taken;
                case CELL_SECTOR_NUMBER:
                    return sectorNumber;
                default:
                    return 0;
            }
        }

        /** Answers the fault that hinders the write, or FAULT_NONE when it is done. */
        private int writeByte(int number, int value) {
            int address = number & (ADDRESSES - 1);
            if (address >= FIRST_CELL) {
                return writeCell(address, value);
            }
            if (isProtected && address >= FIRST_PROTECTED) {
                return FAULT_PROTECTED;
            }
            memory[address] = value;
            return FAULT_NONE;
        }

        private int writeCell(int address, int value) {
            switch (address) {
                case CELL_SECTOR_NUMBER:
                    if (value >= SECTORS) {
                        return FAULT_SECTOR;
                    }
                    sectorNumber = value;
                    break;
                case CELL_SECTOR_READ:
                    System.arraycopy(drive, sectorNumber * SECTOR_SIZE, memory, SECTOR_WINDOW, SECTOR_SIZE);
                    break;
                case CELL_SECTOR_WRITE:
                    System.arraycopy(memory, SECTOR_WINDOW, drive, sectorNumber * SECTOR_SIZE, SECTOR_SIZE);
                    break;
                default:
                    break;
            }
            return FAULT_NONE;
        }
    }

    /** The registers and flags, and the instructions that change them. */
    private static final class Processor {
        private final Board board;
        private int a;
        private int x;
        private int y;
        private int s;
        private int pc;
        private int negative;
        private int overflow;
        private int zero;
        private int carry;
        // Of the instruction at hand: its byte b, the address E, and the pc that it leads to.
        private int b;
        private int e;
        private int nextPc;

        private Processor() {
            board = new Board();
            s = 255;
            pc = FIRST_PC;
        }

        private int register(int number) {
            switch (number) {
                case 0:
                    return a;
                case 1:
                    return x;
                case 2:
                    return y;
                case 3:
                    return s;
                case REGISTER_PC:
                    return pc;
                default:
                    return flags();
            }
        }

        private void setRegister(int number, int value) {
            switch (number) {
                case 0:
                    a = value;
                    break;
                case 1:
                    x = value;
                    break;
                case 2:
                    y = value;
                    break;
                case 3:
                    s = value;
                    break;
                case REGISTER_PC:
                    pc = value;
                    break;
                default:
                    setFlags(value);
                    break;
            }
        }

        private int flags() {
            return 128 * negative + 64 * overflow + 48 + 2 * zero + carry;
        }

        private void setFlags(int value) {
            negative = value >> 7 & 1;
            overflow = value >> 6 & 1;
            zero = value >> 1 & 1;
            carry = value & 1;
        }

        /**
         * Does one instruction, or answers its fault. A write is the last thing that can fail, and
         * every instruction tries it before it changes a register or a flag, so that nothing has to
         * be taken back.
         */
        private int step() {
            int code = board.readByte(pc);
            if (code == CODE_STOP) {
                return FAULT_STOP;
            }
            int mode = modeOf(code);
            if (mode == NO) {
                return FAULT_UNKNOWN;
            }
            fetch(mode);
            int fault;
            switch (code % 4) {
                case 1:
                    fault = executeG1(code / 32, mode);
                    break;
                case 2:
                    fault = executeG2(code / 32, mode);
                    break;
                default:
                    fault = executeG0(code, mode);
                    break;
            }
            if (fault == FAULT_NONE) {
                pc = nextPc;
            }
            return fault;
        }

        private static int modeOf(int code) {
            int place = code / 32 * 8 + code / 4 % 8;
            switch (code % 4) {
                case 0:
                    return MODES_OF_G0[place];
                case 1:
                    return code == CODE_STORE_NEXT ? NO : code / 4 % 8;
                case 2:
                    return MODES_OF_G2[place];
                default:
                    return NO;
            }
        }

        // Reads no byte too many: a byte of the cells may be the key, which reading takes away.
        private void fetch(int mode) {
            int size = bytesBehind(mode);
            b = size >= 1 ? board.readByte(pc + 1) : 0;
            int word = size >= 2 ? b + 256 * board.readByte(pc + 2) : b;
            e = address(place(mode, word));
            nextPc = address(pc + 1 + size);
        }

        private static int bytesBehind(int mode) {
            switch (mode) {
                case SELF:
                case ALONE:
                    return 0;
                case WIDE:
                case WIDEX:
                case WIDEY:
                    return 2;
                default:
                    return 1;
            }
        }

        private static int address(int number) {
            return number & (ADDRESSES - 1);
        }

        private int place(int mode, int word) {
            switch (mode) {
                case INX:
                    return wordAtZero((b + x) & 255);
                case INY:
                    return wordAtZero(b) + y;
                case ZEROX:
                    return (b + x) & 255;
                case ZEROY:
                    return (b + y) & 255;
                case WIDEX:
                    return word + x;
                case WIDEY:
                    return word + y;
                default:
                    return word;
            }
        }

        // No address below 256 is a cell, so that the plain bytes are what a read would answer.
        private int wordAtZero(int at) {
            return board.memory[at & 255] + 256 * board.memory[(at + 1) & 255];
        }

        private int operand(int mode) {
            if (mode == NEXT) {
                return b;
            }
            if (mode == SELF) {
                return a;
            }
            return board.readByte(e);
        }

        private int executeG1(int k, int mode) {
            if (k == 4) {
                return board.writeByte(e, a);
            }
            int operand = operand(mode);
            switch (k) {
                case 0:
                    a = set(a | operand);
                    break;
                case 1:
                    a = set(a & operand);
                    break;
                case 2:
                    a = set(a ^ operand);
                    break;
                case 3:
                    add(operand);
                    break;
                case 5:
                    a = set(operand);
                    break;
                case 6:
                    compare(a, operand);
                    break;
                default:
                    add(255 - operand);
                    break;
            }
            return FAULT_NONE;
        }

        private int executeG2(int k, int mode) {
            if (k == 4) {
                return executeFromX(mode);
            }
            if (k == 5) {
                x = set(mode == ALONE ? s : operand(mode));
                return FAULT_NONE;
            }
            if (k == 6 && mode == SELF) {
                x = set((x - 1) & 255);
                return FAULT_NONE;
            }
            if (k == 7 && mode == SELF) {
                return FAULT_NONE;
            }
            return change(k, mode);
        }

        private int executeFromX(int mode) {
            if (mode == SELF) {
                a = set(x);
                return FAULT_NONE;
            }
            if (mode == ALONE) {
                s = x;
                return FAULT_NONE;
            }
            return board.writeByte(e, x);
        }

        private int change(int k, int mode) {
            int before = operand(mode);
            int after = changed(k, before);
            if (mode == SELF) {
                a = after;
            } else {
                int fault = board.writeByte(e, after);
                if (fault != FAULT_NONE) {
                    return fault;
                }
            }
            if (k <= 1) {
                carry = before >> 7;
            } else if (k <= 3) {
                carry = before & 1;
            }
            set(after);
            return FAULT_NONE;
        }

        private int changed(int k, int before) {
            switch (k) {
                case 0:
                    return (2 * before) & 255;
                case 1:
                    return (2 * before + carry) & 255;
                case 2:
                    return before / 2;
                case 3:
                    return before / 2 + 128 * carry;
                case 6:
                    return (before - 1) & 255;
                default:
                    return (before + 1) & 255;
            }
        }

        private int executeG0(int code, int mode) {
            int k = code / 32;
            if (mode == ALONE) {
                executeAlone(code);
                return FAULT_NONE;
            }
            if (code / 4 % 8 == 4) {
                branch(k);
                return FAULT_NONE;
            }
            if (code == CODE_CALL || code == CODE_JUMP || code == CODE_JUMP_THROUGH) {
                jump(code);
                return FAULT_NONE;
            }
            if (k == 4) {
                return board.writeByte(e, y);
            }
            executeOperandG0(k, operand(mode));
            return FAULT_NONE;
        }

        private void executeOperandG0(int k, int operand) {
            switch (k) {
                case 1:
                    zero = (a & operand) == 0 ? 1 : 0;
                    negative = operand >> 7 & 1;
                    overflow = operand >> 6 & 1;
                    break;
                case 5:
                    y = set(operand);
                    break;
                case 6:
                    compare(y, operand);
                    break;
                default:
                    compare(x, operand);
                    break;
            }
        }

        private void jump(int code) {
            if (code == CODE_JUMP_THROUGH) {
                // Low byte first: at 1008 both bytes are the key, and the second read takes it.
                int low = board.readByte(e);
                nextPc = address(low + 256 * board.readByte(e + 1));
                return;
            }
            if (code == CODE_CALL) {
                int last = address(pc + 2);
                push(last / 256);
                push(last % 256);
            }
            nextPc = e;
        }

        private void branch(int k) {
            int flag;
            switch (k / 2) {
                case 0:
                    flag = negative;
                    break;
                case 1:
                    flag = overflow;
                    break;
                case 2:
                    flag = carry;
                    break;
                default:
                    flag = zero;
                    break;
            }
            if (flag == k % 2) {
                nextPc = address(nextPc + (b < 128 ? b : b - 256));
            }
        }

        private void executeAlone(int code) {
            switch (code) {
                case 8:
                    push(flags());
                    break;
                case 24:
                    carry = 0;
                    break;
                case 40:
                    setFlags(pull());
                    break;
                case 56:
                    carry = 1;
                    break;
                case 72:
                    push(a);
                    break;
                case 96:
                    comeBack();
                    break;
                case 104:
                    a = set(pull());
                    break;
                case 136:
                    y = set((y - 1) & 255);
                    break;
                case 152:
                    a = set(y);
                    break;
                case 168:
                    y = set(a);
                    break;
                case 184:
                    overflow = 0;
                    break;
                case 200:
                    y = set((y + 1) & 255);
                    break;
                default:
                    x = set((x + 1) & 255);
                    break;
            }
        }

        private void comeBack() {
            int low = pull();
            nextPc = address(low + 256 * pull() + 1);
        }

        // The stack lies in open memory, so that a push has no fault.
        private void push(int value) {
            board.writeByte(STACK + s, value);
            s = (s - 1) & 255;
        }

        private int pull() {
            s = (s + 1) & 255;
            return board.readByte(STACK + s);
        }

        private int set(int value) {
            zero = value == 0 ? 1 : 0;
            negative = value >> 7;
            return value;
        }

        private void compare(int value, int operand) {
            carry = value >= operand ? 1 : 0;
            set((value - operand) & 255);
        }

        private void add(int operand) {
            int sum = a + operand + carry;
            overflow = ((a ^ sum) & (operand ^ sum)) >> 7 & 1;
            carry = sum > 255 ? 1 : 0;
            a = set(sum & 255);
        }
    }
}
