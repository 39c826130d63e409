/**
 * Makes machines with programs in them and looks at all that they show. A look at the whole memory
 * takes more than the 512 calls that the document promises; this program answers them all the same.
 */
final class Rig {
    static final int A = 0;
    static final int X = 1;
    static final int Y = 2;
    static final int S = 3;
    static final int PC = 4;
    static final int FLAGS = 5;
    static final int DONE = 6;
    static final int KEY = 7;
    static final int SECTOR = 8;
    static final int FAULT = 9;

    static final int N_BIT = 128;
    static final int V_BIT = 64;
    static final int Z_BIT = 2;
    static final int C_BIT = 1;
    /** The two bits of the flags' byte that are always 1. */
    static final int ONES = 48;

    private Rig() {
    }

    /** A new machine with these bytes from 512 on, where its PC stands. */
    static SixtyFive with(int... program) {
        SixtyFive machine = new SixtyFive();
        bytes(machine, 512, program);
        return machine;
    }

    static void bytes(SixtyFive machine, int address, int... values) {
        for (int i = 0; i < values.length; i++) {
            machine.load(address + i, values[i], 1);
        }
    }

    static void sectorBytes(SixtyFive machine, int sector, int... values) {
        for (int i = 0; i < values.length; i++) {
            machine.insert(sector, i, values[i], 1);
        }
    }

    /** Runs one instruction; answers the number of its fault, 0 without one. */
    static int step(SixtyFive machine) {
        try {
            machine.run(1);
            return 0;
        } catch (IllegalStateException e) {
            return 1;
        } catch (UnsupportedOperationException e) {
            return 2;
        } catch (IndexOutOfBoundsException e) {
            return 3;
        } catch (java.util.NoSuchElementException e) {
            return 4;
        }
    }

    static String registers(SixtyFive machine) {
        StringBuilder text = new StringBuilder();
        for (int what = 0; what <= 9; what++) {
            text.append(what == 0 ? "" : " ").append(machine.get(what));
        }
        return text.toString();
    }

    static String memory(SixtyFive machine) {
        StringBuilder text = new StringBuilder();
        for (int address = 0; address <= 1007; address++) {
            text.append(' ').append(machine.peek(address));
        }
        return text.toString();
    }

    static String drive(SixtyFive machine) {
        StringBuilder text = new StringBuilder();
        for (int sector = 0; sector < 8; sector++) {
            for (int at = 0; at < 32; at++) {
                text.append(' ').append(machine.sector(sector, at));
            }
        }
        return text.toString();
    }

    /** All that get, peek, sector and protect show. */
    static String state(SixtyFive machine) {
        boolean on = machine.protect(false);
        machine.protect(on);
        return registers(machine) + " / " + on + " /" + memory(machine) + " /" + drive(machine);
    }
}
