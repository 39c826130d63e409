/**
 * A second machine, written by the names of the classic instructions and with every state put back
 * at a fault, to be held against SixtyFive.
 */
final class Model {
    final int[] memory = new int[1024];
    final int[][] drive = new int[8][32];
    int a;
    int x;
    int y;
    int s = 255;
    int pc = 512;
    boolean n;
    boolean v;
    boolean z;
    boolean c;
    int key = -1;
    int chosen;
    boolean guarded;
    int done;
    int latest;

    private static final class Fault extends RuntimeException {
        private static final long serialVersionUID = 1L;
        private final int number;

        private Fault(int number) {
            this.number = number;
        }
    }

    /** Does one instruction; answers the number of its fault, 0 without one. */
    int step() {
        int[] registers = {a, x, y, s, pc};
        boolean[] flags = {n, v, z, c};
        try {
            instruction();
            done++;
            return 0;
        } catch (Fault fault) {
            a = registers[0];
            x = registers[1];
            y = registers[2];
            s = registers[3];
            pc = registers[4];
            n = flags[0];
            v = flags[1];
            z = flags[2];
            c = flags[3];
            latest = fault.number;
            return latest;
        }
    }

    int keyByte() {
        return key < 0 ? 0 : 128 + key;
    }

    int status() {
        return (n ? 128 : 0) | (v ? 64 : 0) | 32 | 16 | (z ? 2 : 0) | (c ? 1 : 0);
    }

    void setStatus(int p) {
        n = (p & 128) != 0;
        v = (p & 64) != 0;
        z = (p & 2) != 0;
        c = (p & 1) != 0;
    }

    private int read(int number) {
        int address = number % 1024;
        if (address < 1008) {
            return memory[address];
        }
        if (address == 1008 || address == 1009) {
            int answer = keyByte();
            if (address == 1009) {
                key = -1;
            }
            return answer;
        }
        return address == 1010 ? chosen : 0;
    }

    private void write(int number, int value) {
        int address = number % 1024;
        if (address < 960 || address < 1008 && !guarded) {
            memory[address] = value;
        } else if (address < 1008) {
            throw new Fault(2);
        } else if (address == 1010 && value > 7) {
            throw new Fault(3);
        } else if (address == 1010) {
            chosen = value;
        } else if (address == 1011) {
            for (int i = 0; i < 32; i++) {
                memory[768 + i] = drive[chosen][i];
            }
        } else if (address == 1012) {
            for (int i = 0; i < 32; i++) {
                drive[chosen][i] = memory[768 + i];
            }
        }
    }

    private void push(int value) {
        write(256 + s, value);
        s = (s + 255) % 256;
    }

    private int pull() {
        s = (s + 1) % 256;
        return read(256 + s);
    }

    private int fetch() {
        int answer = read(pc);
        pc = (pc + 1) % 1024;
        return answer;
    }

    private int result(int value) {
        n = value > 127;
        z = value == 0;
        return value;
    }

    private void instruction() {
        int code = fetch();
        String name = Opcodes.NAMES[code];
        if (code == 0) {
            throw new Fault(1);
        }
        if (name == null) {
            throw new Fault(4);
        }
        String mode = Opcodes.MODES[code];
        int where = where(mode);
        if (name.charAt(0) == 'B' && !name.equals("BIT")) {
            branch(name, where);
        } else if (mode.equals("ALONE")) {
            alone(name);
        } else if (name.startsWith("ST")) {
            write(where, name.equals("STA") ? a : name.equals("STX") ? x : y);
        } else if (name.startsWith("J")) {
            jump(name, where);
        } else if ("ASL ROL LSR ROR INC DEC".contains(name)) {
            change(name, mode, where);
        } else {
            use(name, mode.equals("NEXT") ? where : read(where));
        }
    }

    /** The address of the operand; for NEXT the operand itself. */
    private int where(String mode) {
        switch (mode) {
            case "ALONE":
            case "SELF":
                return -1;
            case "NEXT":
            case "ZERO":
                return fetch();
            case "ZEROX":
                return (fetch() + x) % 256;
            case "ZEROY":
                return (fetch() + y) % 256;
            case "INX":
                return pointer((fetch() + x) % 256) % 1024;
            case "INY":
                return (pointer(fetch()) + y) % 1024;
            default:
                int low = fetch();
                int word = low + 256 * fetch();
                int more = mode.equals("WIDEX") ? x : mode.equals("WIDEY") ? y : 0;
                return (word + more) % 1024;
        }
    }

    private int pointer(int at) {
        return memory[at] + 256 * memory[(at + 1) % 256];
    }

    private void branch(String name, int distance) {
        boolean taken;
        switch (name) {
            case "BPL":
                taken = !n;
                break;
            case "BMI":
                taken = n;
                break;
            case "BVC":
                taken = !v;
                break;
            case "BVS":
                taken = v;
                break;
            case "BCC":
                taken = !c;
                break;
            case "BCS":
                taken = c;
                break;
            case "BNE":
                taken = !z;
                break;
            default:
                taken = z;
                break;
        }
        if (taken) {
            pc = Math.floorMod(pc + (byte) distance, 1024);
        }
    }

    private void jump(String name, int word) {
        if (name.equals("JMI")) {
            int low = read(word);
            int high = read(word + 1);
            pc = (low + 256 * high) % 1024;
            return;
        }
        if (name.equals("JSR")) {
            int last = (pc + 1023) % 1024;
            push(last / 256);
            push(last % 256);
        }
        pc = word;
    }

    private void change(String name, String mode, int where) {
        int p = mode.equals("SELF") ? a : read(where);
        int low = c ? 1 : 0;
        int after;
        switch (name) {
            case "ASL":
                c = p > 127;
                after = p * 2 % 256;
                break;
            case "ROL":
                c = p > 127;
                after = (p * 2 + low) % 256;
                break;
            case "LSR":
                c = p % 2 == 1;
                after = p / 2;
                break;
            case "ROR":
                c = p % 2 == 1;
                after = p / 2 + 128 * low;
                break;
            case "INC":
                after = (p + 1) % 256;
                break;
            default:
                after = (p + 255) % 256;
                break;
        }
        result(after);
        if (mode.equals("SELF")) {
            a = after;
        } else {
            write(where, after);
        }
    }

    private void use(String name, int p) {
        switch (name) {
            case "ORA":
                a = result(a | p);
                break;
            case "AND":
                a = result(a & p);
                break;
            case "EOR":
                a = result(a ^ p);
                break;
            case "ADC":
                add(p);
                break;
            case "SBC":
                add(p ^ 255);
                break;
            case "LDA":
                a = result(p);
                break;
            case "LDX":
                x = result(p);
                break;
            case "LDY":
                y = result(p);
                break;
            case "CMP":
                compare(a, p);
                break;
            case "CPX":
                compare(x, p);
                break;
            case "CPY":
                compare(y, p);
                break;
            case "BIT":
                z = (a & p) == 0;
                n = p > 127;
                v = p / 64 % 2 == 1;
                break;
            default:
                throw new AssertionError(name);
        }
    }

    private void add(int p) {
        int real = (byte) a + (byte) p + (c ? 1 : 0);
        int sum = a + p + (c ? 1 : 0);
        v = real != (byte) real;
        c = sum > 255;
        a = result(sum % 256);
    }

    private void compare(int register, int p) {
        c = register >= p;
        result(Math.floorMod(register - p, 256));
    }

    private void alone(String name) {
        switch (name) {
            case "CLC":
                c = false;
                break;
            case "SEC":
                c = true;
                break;
            case "CLV":
                v = false;
                break;
            case "DEX":
                x = result((x + 255) % 256);
                break;
            case "DEY":
                y = result((y + 255) % 256);
                break;
            case "INX":
                x = result((x + 1) % 256);
                break;
            case "INY":
                y = result((y + 1) % 256);
                break;
            case "RTS":
                int low = pull();
                pc = (low + 256 * pull() + 1) % 1024;
                break;
            case "PHA":
                push(a);
                break;
            case "PHP":
                push(status());
                break;
            case "PLA":
                a = result(pull());
                break;
            case "PLP":
                setStatus(pull());
                break;
            case "TAX":
                x = result(a);
                break;
            case "TAY":
                y = result(a);
                break;
            case "TSX":
                x = result(s);
                break;
            case "TXA":
                a = result(x);
                break;
            case "TXS":
                s = x;
                break;
            case "TYA":
                a = result(y);
                break;
            case "NOP":
                break;
            default:
                throw new AssertionError(name);
        }
    }
}
