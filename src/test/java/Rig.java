import java.util.function.IntUnaryOperator;
import java.util.function.Supplier;

/**
 * Makes machines with programs in them and looks at all that they show. The document promises 512
 * calls of one object, and a look at everything takes more: such a look makes the same machine anew
 * for each part of it.
 */
final class Rig {
    static final int A = 0;
    static final int X = 1;
    static final int Y = 2;
    static final int S = 3;
    static final int PC = 4;
    static final int FLAGS = 5;
    static final int DONE = 6;
    static final int KEY = 7;
    static final int SECTOR = 8;
    static final int FAULT = 9;

    static final int N_BIT = 128;
    static final int V_BIT = 64;
    static final int Z_BIT = 2;
    static final int C_BIT = 1;
    /** The two bits of the flags' byte that are always 1. */
    static final int ONES = 48;

    /** The bytes of MEMORY that are no CELLS. */
    static final int OPEN = 1008;
    /** The bytes of all SECTORS. */
    static final int DRIVE = 256;
    /** How many places one machine shows in a look; it may have had 200 calls before. */
    private static final int PART = 300;

    private Rig() {
    }

    /** A new machine with these bytes from 512 on, where its PC stands. */
    static SixtyFive with(int... program) {
        SixtyFive machine = new SixtyFive();
        bytes(machine, 512, program);
        return machine;
    }

    /** A new machine whose PC is there, with these bytes from there on. */
    static SixtyFive at(int address, int... program) {
        SixtyFive machine = new SixtyFive();
        bytes(machine, address, program);
        machine.put(PC, address);
        return machine;
    }

    /** A new machine with this code and the two bytes of the word behind it. */
    static SixtyFive wide(int code, int word) {
        return with(code, word % 256, word / 256);
    }

    static void bytes(SixtyFive machine, int address, int... values) {
        for (int i = 0; i < values.length; i += 8) {
            int count = Math.min(8, values.length - i);
            machine.load(address + i, packed(values, i, count), count);
        }
    }

    static void sectorBytes(SixtyFive machine, int sector, int... values) {
        for (int i = 0; i < values.length; i += 8) {
            int count = Math.min(8, values.length - i);
            machine.insert(sector, i, packed(values, i, count), count);
        }
    }

    private static long packed(int[] values, int from, int count) {
        long bytes = 0;
        for (int i = 0; i < count; i++) {
            bytes = bytes << 8 | values[from + i] & 255;
        }
        return bytes;
    }

    /** Loads all open MEMORY, each byte by its address. */
    static void fillMemory(SixtyFive machine, IntUnaryOperator byteAt) {
        bytes(machine, 0, java.util.stream.IntStream.range(0, OPEN).map(byteAt).toArray());
    }

    /** Fills all SECTORS, each byte by 32 times its sector plus its place. */
    static void fillDrive(SixtyFive machine, IntUnaryOperator byteAt) {
        for (int sector = 0; sector < 8; sector++) {
            sectorBytes(machine, sector,
                    java.util.stream.IntStream.range(sector * 32, sector * 32 + 32).map(byteAt).toArray());
        }
    }

    /** A machine of which nothing is any more as it was at first. */
    static SixtyFive used() {
        SixtyFive machine = new SixtyFive();
        fillMemory(machine, address -> address * 7 % 255 + 1);
        fillDrive(machine, place -> place * 11 % 255 + 1);
        // STA 1010, then a code that is no instruction.
        bytes(machine, 512, 0x8D, 0xF2, 0x03, 0x03);
        machine.put(A, 6);
        step(machine);
        step(machine);
        machine.put(A, 101);
        machine.put(X, 102);
        machine.put(Y, 103);
        machine.put(S, 104);
        machine.put(FLAGS, N_BIT + C_BIT);
        machine.press(77);
        machine.protect(true);
        return machine;
    }

    /** Runs one instruction; answers the number of its fault, 0 without one. */
    static int step(SixtyFive machine) {
        try {
            machine.run(1);
            return 0;
        } catch (IllegalStateException e) {
            return 1;
        } catch (UnsupportedOperationException e) {
            return 2;
        } catch (IndexOutOfBoundsException e) {
            return 3;
        } catch (java.util.NoSuchElementException e) {
            return 4;
        }
    }

    /** What get answers, for 0 .. 9. */
    static int[] row(SixtyFive machine) {
        int[] row = new int[10];
        for (int what = 0; what <= 9; what++) {
            row[what] = machine.get(what);
        }
        return row;
    }

    static String text(int... row) {
        StringBuilder text = new StringBuilder();
        for (int value : row) {
            text.append(text.length() == 0 ? "" : " ").append(value);
        }
        return text.toString();
    }

    static String registers(SixtyFive machine) {
        return text(row(machine));
    }

    static int[] memory(Supplier<SixtyFive> maker) {
        int[] bytes = new int[OPEN];
        SixtyFive machine = null;
        for (int address = 0; address < OPEN; address++) {
            machine = address % PART == 0 ? maker.get() : machine;
            bytes[address] = machine.peek(address);
        }
        return bytes;
    }

    static int[] drive(Supplier<SixtyFive> maker) {
        int[] bytes = new int[DRIVE];
        SixtyFive machine = maker.get();
        for (int place = 0; place < DRIVE; place++) {
            bytes[place] = machine.sector(place / 32, place % 32);
        }
        return bytes;
    }

    /** All that peek, sector and protect show. */
    static String kept(Supplier<SixtyFive> maker) {
        return maker.get().protect(false) + " / " + text(memory(maker)) + " / " + text(drive(maker));
    }

    /** All that get, peek, sector and protect show. */
    static String state(Supplier<SixtyFive> maker) {
        return registers(maker.get()) + " / " + kept(maker);
    }
}
