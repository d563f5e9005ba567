/** Promise 5: each opcode's length and cycles, page crossings, branches, and the opcodes that are none. */
public final class OpcodesTest {
    /* Each row: how it uses memory, a name, and its opcodes by addressing. */
    private static final String[] MANUAL = {
        "read ADC imm69 zpg65 zpx75 abs6D abx7D aby79 izx61 izy71",
        "read AND imm29 zpg25 zpx35 abs2D abx3D aby39 izx21 izy31",
        "read BIT zpg24 abs2C",
        "read CMP immC9 zpgC5 zpxD5 absCD abxDD abyD9 izxC1 izyD1",
        "read CPX immE0 zpgE4 absEC",
        "read CPY immC0 zpgC4 absCC",
        "read EOR imm49 zpg45 zpx55 abs4D abx5D aby59 izx41 izy51",
        "read LDA immA9 zpgA5 zpxB5 absAD abxBD abyB9 izxA1 izyB1",
        "read LDX immA2 zpgA6 zpyB6 absAE abyBE",
        "read LDY immA0 zpgA4 zpxB4 absAC abxBC",
        "read ORA imm09 zpg05 zpx15 abs0D abx1D aby19 izx01 izy11",
        "read SBC immE9 zpgE5 zpxF5 absED abxFD abyF9 izxE1 izyF1",
        "store STA zpg85 zpx95 abs8D abx9D aby99 izx81 izy91",
        "store STX zpg86 zpy96 abs8E",
        "store STY zpg84 zpx94 abs8C",
        "change ASL imp0A zpg06 zpx16 abs0E abx1E",
        "change DEC zpgC6 zpxD6 absCE abxDE",
        "change INC zpgE6 zpxF6 absEE abxFE",
        "change LSR imp4A zpg46 zpx56 abs4E abx5E",
        "change ROL imp2A zpg26 zpx36 abs2E abx3E",
        "change ROR imp6A zpg66 zpx76 abs6E abx7E",
        "read plain imp18 impD8 imp58 impB8 impCA imp88 impE8 impC8 impEA imp38 impF8 imp78",
        "read moves impAA impA8 impBA imp8A imp9A imp98",
    };
    private static final int[] BRANCHES = {0x10, 0x30, 0x50, 0x70, 0x90, 0xB0, 0xD0, 0xF0};
    private static final int[] BRANCH_FLAGS = {128, 64, 1, 2};
    private static final int[] OTHERS = {0x00, 0x20, 0x40, 0x60, 0x4C, 0x6C, 0x08, 0x28, 0x48, 0x68};

    private final Check check = new Check();
    private final boolean[] known = new boolean[256];

    public static void main(String[] args) {
        OpcodesTest test = new OpcodesTest();
        test.manual();
        test.branches();
        test.noOpcodes();
        test.check.finish();
    }

    private void manual() {
        for (String row : MANUAL) {
            String[] words = row.split(" ");
            for (int i = 2; i < words.length; i++) {
                String mode = words[i].substring(0, 3);
                int opcode = Integer.parseInt(words[i].substring(3), 16);
                known[opcode] = true;
                lengthAndCycles(words[1] + " " + mode, opcode, mode, words[0]);
            }
        }
    }

    private void lengthAndCycles(String name, int opcode, String mode, String use) {
        int length = mode.equals("imp") ? 1 : mode.startsWith("ab") ? 3 : 2;
        GameConsole console = prepared(opcode, 0x40);
        check.due(name + ": cycles", console.step(), cycles(mode, use, false));
        check.due(name + ": length", console.core(5) - Rig.START, length);
        boolean indexed = mode.equals("abx") || mode.equals("aby") || mode.equals("izy");
        if (indexed) {
            GameConsole near = prepared(opcode, 0x41);
            check.due(name + " within a page: cycles", near.step(), cycles(mode, use, false));
            GameConsole crossing = prepared(opcode, 0xFF);
            check.due(name + " crossing: cycles", crossing.step(), cycles(mode, use, true));
            check.due(name + " crossing: length", crossing.core(5) - Rig.START, length);
        }
    }

    /** The opcode with the operand 0x0340 or 0x03FF, or 0x40 or 0xFF with a pointer to those there; X and Y are 1. */
    private static GameConsole prepared(int opcode, int low) {
        GameConsole console = Rig.at(Rig.MMC3, Rig.START - 4, 0xA2, 1, 0xA0, 1, opcode, low, 3);
        Rig.put(console, low, low, 3);
        console.write(low + 1 & 0xFF, 3);
        console.run(2);
        return console;
    }

    private static int cycles(String mode, String use, boolean crossing) {
        int more = use.equals("store") ? 1 : crossing && use.equals("read") ? 1 : 0;
        int change = use.equals("change") ? 2 : 0;
        switch (mode) {
            case "imp":
            case "imm": return 2;
            case "zpg": return 3 + change;
            case "zpx":
            case "zpy": return 4 + change;
            case "abs": return 4 + change;
            case "abx":
            case "aby": return use.equals("change") ? 7 : 4 + more;
            case "izx": return 6;
            default: return 5 + more;
        }
    }

    private void branches() {
        for (int i = 0; i < BRANCHES.length; i++) {
            known[BRANCHES[i]] = true;
            int flag = BRANCH_FLAGS[i / 2];
            for (int flags = 0; flags < 256; flags++) {
                boolean taken = ((flags & flag) != 0) == (i % 2 == 1);
                String name = "branch " + Integer.toHexString(BRANCHES[i]) + " with P " + flags;
                branch(name, 0x0280, BRANCHES[i], flags, 0x10, taken ? 3 : 2, taken ? 0x0292 : 0x0282);
                branch(name, 0x0280, BRANCHES[i], flags, 0xF0, taken ? 3 : 2, taken ? 0x0272 : 0x0282);
            }
            int on = i % 2 == 1 ? 0xFF : 0;
            branch("from an odd address", 0x0281, BRANCHES[i], on, 0x10, 3, 0x0293);
            branch("up a page", 0x0280, BRANCHES[i], on, 0x7F, 4, 0x0301);
            branch("to the page's end", 0x0280, BRANCHES[i], on, 0x7D, 3, 0x02FF);
            branch("down a page", 0x0270, BRANCHES[i], on, 0x80, 4, 0x01F2);
            branch("to the page's begin", 0x0270, BRANCHES[i], on, 0x8E, 3, 0x0200);
            branch("the next one is behind the page", 0x02FE, BRANCHES[i], on, 0x00, 3, 0x0300);
            branch("back over the page's end", 0x02FE, BRANCHES[i], on, 0xFE, 4, 0x02FE);
            branch("not taken over a page", 0x0280, BRANCHES[i], 255 - on, 0x7F, 2, 0x0282);
        }
    }

    /** The flags come by way of the stack, which no branch touches. */
    private void branch(String name, int at, int opcode, int flags, int distance, int cycles, int target) {
        GameConsole console = Rig.at(Rig.MMC3, 0x0600, 0xA9, flags, 0x48, 0x28, 0x4C, at & 0xFF, at >> 8);
        Rig.put(console, at, opcode, distance);
        console.run(4);
        int before = console.core(4);
        check.due(name + ": cycles", console.step(), cycles);
        check.due(name + ": PC", console.core(5), target);
        check.due(name + ": P", console.core(4), before);
    }

    private void noOpcodes() {
        for (int opcode : OTHERS) {
            known[opcode] = true;
        }
        int count = 0;
        for (int opcode = 0; opcode < 256; opcode++) {
            if (known[opcode]) {
                count++;
            } else {
                nothing(opcode);
            }
        }
        check.due("opcodes of the manual", count, 151);
    }

    private void nothing(int opcode) {
        GameConsole console = Rig.with(Rig.MMC3, 0xA9, 5, 0xA2, 6, 0xA0, 7, opcode, 0xEA);
        console.run(3);
        int[] before = new int[6];
        for (int what = 0; what < 6; what++) {
            before[what] = console.core(what);
        }
        for (int i = 0; i < 3; i++) {
            check.due("no opcode " + opcode + ": cycles", console.step(), 2);
            for (int what = 0; what < 6; what++) {
                check.due("no opcode " + opcode + ": core " + what, console.core(what), before[what]);
            }
        }
    }
}
