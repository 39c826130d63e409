/** The classic instruction set by its names: which code is which instruction in which mode. */
final class Opcodes {
    private static final String[] LINES = {
        "ADC NEXT 69 ZERO 65 ZEROX 75 WIDE 6D WIDEX 7D WIDEY 79 INX 61 INY 71",
        "AND NEXT 29 ZERO 25 ZEROX 35 WIDE 2D WIDEX 3D WIDEY 39 INX 21 INY 31",
        "ASL SELF 0A ZERO 06 ZEROX 16 WIDE 0E WIDEX 1E",
        "BCC NEXT 90", "BCS NEXT B0", "BEQ NEXT F0", "BMI NEXT 30", "BNE NEXT D0", "BPL NEXT 10", "BVC NEXT 50",
        "BVS NEXT 70",
        "BIT ZERO 24 WIDE 2C",
        "CLC ALONE 18", "CLV ALONE B8", "SEC ALONE 38",
        "CMP NEXT C9 ZERO C5 ZEROX D5 WIDE CD WIDEX DD WIDEY D9 INX C1 INY D1",
        "CPX NEXT E0 ZERO E4 WIDE EC",
        "CPY NEXT C0 ZERO C4 WIDE CC",
        "DEC ZERO C6 ZEROX D6 WIDE CE WIDEX DE",
        "DEX ALONE CA", "DEY ALONE 88", "INX ALONE E8", "INY ALONE C8",
        "EOR NEXT 49 ZERO 45 ZEROX 55 WIDE 4D WIDEX 5D WIDEY 59 INX 41 INY 51",
        "INC ZERO E6 ZEROX F6 WIDE EE WIDEX FE",
        "JMP WIDE 4C", "JMI WIDE 6C", "JSR WIDE 20", "RTS ALONE 60",
        "LDA NEXT A9 ZERO A5 ZEROX B5 WIDE AD WIDEX BD WIDEY B9 INX A1 INY B1",
        "LDX NEXT A2 ZERO A6 ZEROY B6 WIDE AE WIDEY BE",
        "LDY NEXT A0 ZERO A4 ZEROX B4 WIDE AC WIDEX BC",
        "LSR SELF 4A ZERO 46 ZEROX 56 WIDE 4E WIDEX 5E",
        "NOP ALONE EA",
        "ORA NEXT 09 ZERO 05 ZEROX 15 WIDE 0D WIDEX 1D WIDEY 19 INX 01 INY 11",
        "PHA ALONE 48", "PHP ALONE 08", "PLA ALONE 68", "PLP ALONE 28",
        "ROL SELF 2A ZERO 26 ZEROX 36 WIDE 2E WIDEX 3E",
        "ROR SELF 6A ZERO 66 ZEROX 76 WIDE 6E WIDEX 7E",
        "SBC NEXT E9 ZERO E5 ZEROX F5 WIDE ED WIDEX FD WIDEY F9 INX E1 INY F1",
        "STA ZERO 85 ZEROX 95 WIDE 8D WIDEX 9D WIDEY 99 INX 81 INY 91",
        "STX ZERO 86 ZEROY 96 WIDE 8E",
        "STY ZERO 84 ZEROX 94 WIDE 8C",
        "TAX ALONE AA", "TAY ALONE A8", "TSX ALONE BA", "TXA ALONE 8A", "TXS ALONE 9A", "TYA ALONE 98",
    };

    /** The name for each code, or null. */
    static final String[] NAMES = new String[256];
    /** The mode for each code, or null. */
    static final String[] MODES = new String[256];

    static {
        for (String line : LINES) {
            String[] words = line.split(" ");
            for (int i = 1; i < words.length; i += 2) {
                int code = Integer.parseInt(words[i + 1], 16);
                if (NAMES[code] != null) {
                    throw new AssertionError("code " + code + " stands twice");
                }
                NAMES[code] = words[0];
                MODES[code] = words[i];
            }
        }
    }

    private Opcodes() {
    }

    /** How many bytes the instruction has, the code among them. */
    static int size(int code) {
        switch (MODES[code]) {
            case "ALONE":
            case "SELF":
                return 1;
            case "WIDE":
            case "WIDEX":
            case "WIDEY":
                return 3;
            default:
                return 2;
        }
    }
}
