/** Promise 5: what instructions do, interrupts, and the order and number of a step's readings. */
public final class StepTest {
    private static final Check CHECK = new Check();

    public static void main(String[] args) {
        arithmetic();
        logic();
        shifts();
        counting();
        moves();
        flags();
        addressing();
        wrapping();
        stack();
        jumps();
        brk();
        interrupts();
        eachByteOnce();
        onlyWhatIsNeeded();
        dma();
        CHECK.finish();
    }

    /** A console behind some steps of a program. */
    private static GameConsole done(int steps, int... program) {
        GameConsole console = Rig.with(Rig.MMC3, program);
        console.run(steps);
        return console;
    }

    /** A due answer below 0 is not looked at. */
    private static void core(String name, GameConsole console, int... due) {
        for (int what = 0; what < due.length; what++) {
            if (due[what] >= 0) {
                CHECK.due(name + ": core " + what, console.core(what), due[what]);
            }
        }
    }

    private static int nz(int value) {
        return (value == 0 ? 2 : 0) | value & 0x80;
    }

    private static void arithmetic() {
        int[] opcodes = {0x69, 0xE9, 0xC9};
        for (int opcode : opcodes) {
            for (int from = 0; from < 0x20000; from += 32) {
                arithmetic(opcode, from);
            }
        }
        core("CPX below", done(2, 0xA2, 5, 0xE0, 6), 0, 5, -1, -1, 0x24 | 128);
        core("CPX equal", done(2, 0xA2, 5, 0xE0, 5), 0, 5, -1, -1, 0x24 | 3);
        core("CPY above", done(2, 0xA0, 5, 0xC0, 4), 0, -1, 5, -1, 0x24 | 1);
        core("CPY far above", done(2, 0xA0, 0xFF, 0xC0, 1), 0, -1, 0xFF, -1, 0x24 | 129);
    }

    /** 32 sums of A, a value and C on one object. */
    private static void arithmetic(int opcode, int from) {
        GameConsole console = Rig.with(Rig.MMC3, 0xA9, 0, 0x48, 0x28, 0xA9, 0, 0x69, 0, 0x4C, 0, 2);
        for (int i = from; i < from + 32; i++) {
            int a = i & 0xFF;
            int value = i >> 8 & 0xFF;
            int carry = i >> 16;
            int decimal = i % 3 == 0 ? 8 : 0;
            console.write(0x0201, carry | decimal);
            console.write(0x0205, a);
            console.write(0x0206, opcode);
            console.write(0x0207, value);
            console.run(5);
            int other = opcode == 0x69 ? value : 255 - value;
            int in = opcode == 0xC9 ? 1 : carry;
            int sum = a + other + in;
            int signed = (byte) a + (byte) other + in;
            int over = opcode != 0xC9 && (signed < -128 || signed > 127) ? 64 : 0;
            int p = 32 | sum >> 8 | nz(sum & 0xFF) | over | decimal;
            String name = Integer.toHexString(opcode) + " of " + a + ", " + value + ", " + carry;
            CHECK.due(name + ": A", console.core(0), opcode == 0xC9 ? a : sum & 0xFF);
            CHECK.due(name + ": P", console.core(4), p);
            console.step();
        }
    }

    private static void logic() {
        core("AND", done(2, 0xA9, 0xF0, 0x29, 0xCC), 0xC0, -1, -1, -1, 0xA4);
        core("AND 0", done(2, 0xA9, 0xF0, 0x29, 0x0F), 0, -1, -1, -1, 0x26);
        core("ORA", done(2, 0xA9, 0x30, 0x09, 0x44), 0x74, -1, -1, -1, 0x24);
        core("EOR", done(2, 0xA9, 0xFF, 0x49, 0x0F), 0xF0, -1, -1, -1, 0xA4);
        core("EOR 0", done(2, 0xA9, 0x55, 0x49, 0x55), 0, -1, -1, -1, 0x26);
        int[] values = {0x00, 0x40, 0x80, 0xC0, 0x01, 0x41, 0x81, 0xFF};
        for (int value : values) {
            GameConsole console = Rig.with(Rig.MMC3, 0xA9, 1, 0x24, 0x10);
            console.write(0x10, value);
            console.run(2);
            core("BIT " + value, console, 1, 0, 0, 0xFD, 0x24 | value & 0xC0 | ((value & 1) == 0 ? 2 : 0));
        }
    }

    private static void shifts() {
        int[] onA = {0x0A, 0x4A, 0x2A, 0x6A};
        int[] onMemory = {0x0E, 0x4E, 0x2E, 0x6E};
        for (int i = 0; i < 4; i++) {
            for (int value = 0; value < 512; value++) {
                int carry = value >> 8;
                int old = value & 0xFF;
                int in = i < 2 ? 0 : carry;
                boolean up = i % 2 == 0;
                int due = up ? (old << 1 | in) & 0xFF : old >> 1 | in << 7;
                int p = 0x24 | nz(due) | (up ? old >> 7 : old & 1);
                int setCarry = carry == 1 ? 0x38 : 0x18;
                core("shift " + i + " of A " + value, done(3, setCarry, 0xA9, old, onA[i]), due, 0, 0, 0xFD, p);
                GameConsole console = Rig.with(Rig.MMC3, setCarry, onMemory[i], 0x00, 0x03);
                console.write(0x0300, old);
                console.run(2);
                CHECK.due("shift " + i + " of memory " + value, console.read(0x0300), due);
                core("shift " + i + " of memory " + value, console, 0, 0, 0, 0xFD, p);
            }
        }
    }

    private static void counting() {
        int[] opcodes = {0xE6, 0xC6, 0xE8, 0xCA, 0xC8, 0x88};
        for (int i = 0; i < opcodes.length; i++) {
            for (int value = 0; value < 256; value++) {
                GameConsole console = Rig.with(Rig.MMC3, 0xA2, value, 0xA0, value, opcodes[i], 0x10);
                console.write(0x10, value);
                console.run(3);
                int due = value + (i % 2 == 0 ? 1 : -1) & 0xFF;
                String name = "count " + i + " of " + value;
                CHECK.due(name + ": memory", console.read(0x10), i < 2 ? due : value);
                CHECK.due(name + ": X", console.core(1), i == 2 || i == 3 ? due : value);
                CHECK.due(name + ": Y", console.core(2), i > 3 ? due : value);
                CHECK.due(name + ": P", console.core(4), 0x24 | nz(due));
            }
        }
    }

    private static void moves() {
        core("TAX", done(2, 0xA9, 0x80, 0xAA), 0x80, 0x80, 0, 0xFD, 0xA4);
        core("TAY", done(3, 0xA9, 0x00, 0xA0, 7, 0xA8), 0, 0, 0, 0xFD, 0x26);
        core("TXA", done(2, 0xA2, 0x81, 0x8A), 0x81, 0x81, 0, 0xFD, 0xA4);
        core("TYA", done(2, 0xA0, 0x01, 0x98), 1, 0, 1, 0xFD, 0x24);
        core("TSX", done(1, 0xBA), 0, 0xFD, 0, 0xFD, 0xA4);
        core("TXS sets no flags", done(3, 0xA2, 0x80, 0xA9, 0x01, 0x9A), 1, 0x80, 0, 0x80, 0x24);
        core("LDX", done(1, 0xA2, 0x00), 0, 0, 0, 0xFD, 0x26);
        core("LDY", done(1, 0xA0, 0x90), 0, 0, 0x90, 0xFD, 0xA4);
        core("NOP", done(1, 0xEA), 0, 0, 0, 0xFD, 0x24, Rig.START + 1);
        GameConsole stores = done(6, 0xA9, 0x80, 0xA2, 0, 0xA0, 3, 0x85, 0x10, 0x86, 0x11, 0x84, 0x12);
        CHECK.due("STA", stores.read(0x10), 0x80);
        CHECK.due("STX", stores.read(0x11), 0);
        CHECK.due("STY", stores.read(0x12), 3);
        core("stores set no flags", stores, 0x80, 0, 3, 0xFD, 0x24);
    }

    private static void flags() {
        int[] opcodes = {0x18, 0x38, 0x58, 0x78, 0xD8, 0xF8, 0xB8};
        int[] off = {1, 0, 4, 0, 8, 0, 64};
        int[] on = {0, 1, 0, 4, 0, 8, 0};
        for (int i = 0; i < opcodes.length; i++) {
            for (int p = 0; p < 256; p++) {
                GameConsole console = done(4, 0xA9, p, 0x48, 0x28, opcodes[i]);
                int due = p & ~16 & ~off[i] | 32 | on[i];
                core("flag " + i + " from " + p, console, p, 0, 0, 0xFD, due);
            }
        }
    }

    private static void addressing() {
        GameConsole console = Rig.with(Rig.MMC3, 0xA2, 2, 0xA0, 3,
            0xA5, 0x10, 0xB5, 0x10, 0xAD, 0x00, 0x03, 0xBD, 0x00, 0x03, 0xB9, 0x00, 0x03, 0xA1, 0x20, 0xB1, 0x30,
            0xB6, 0x10, 0xBE, 0x00, 0x03, 0xBC, 0x00, 0x03);
        Rig.put(console, 0x10, 21, 0, 22, 23);
        Rig.put(console, 0x22, 0x40, 0x03);
        Rig.put(console, 0x30, 0x41, 0x03);
        Rig.put(console, 0x0300, 31, 0, 32, 33);
        Rig.put(console, 0x0340, 41, 0, 0, 0, 42);
        console.run(2);
        int[] due = {21, 22, 31, 32, 33, 41, 42};
        for (int i = 0; i < due.length; i++) {
            console.step();
            CHECK.due("addressing " + i, console.core(0), due[i]);
        }
        console.step();
        CHECK.due("LDX zp,Y", console.core(1), 23);
        console.step();
        CHECK.due("LDX abs,Y", console.core(1), 33);
        console.write(0x0300 + 33, 99);
        console.step();
        CHECK.due("LDY abs,X", console.core(2), 99);
        storesByIndex();
    }

    private static void storesByIndex() {
        GameConsole console = Rig.with(Rig.MMC3, 0xA9, 0x77, 0xA2, 2, 0xA0, 3, 0x95, 0xFF, 0x9D, 0xFF, 0x03,
            0x99, 0xFF, 0x04, 0x81, 0x20, 0x91, 0x30, 0x96, 0xFE, 0x94, 0xFF);
        Rig.put(console, 0x22, 0x40, 0x03);
        Rig.put(console, 0x30, 0xFF, 0x05);
        console.run(3);
        int[] cycles = {4, 5, 5, 6, 6, 4, 4};
        int[] places = {0x0001, 0x0401, 0x0502, 0x0340, 0x0602, 0x0001, 0x0001};
        int[] values = {0x77, 0x77, 0x77, 0x77, 0x77, 2, 3};
        for (int i = 0; i < cycles.length; i++) {
            CHECK.due("store " + i + ": cycles", console.step(), cycles[i]);
            CHECK.due("store " + i, console.read(places[i]), values[i]);
        }
    }

    private static void wrapping() {
        GameConsole console = Rig.with(Rig.MMC3, 0xA2, 0xFF, 0xA0, 0xFF,
            0xB5, 0x03, 0xA1, 0x00, 0xB1, 0xFF, 0xBD, 0x81, 0xFF, 0xA1, 0x01);
        Rig.put(console, 0x00, 0x03, 0x04, 55);
        Rig.put(console, 0xFF, 0x80);
        Rig.put(console, 0x0380, 66);
        Rig.put(console, 0x0403, 99);
        Rig.put(console, 0x047F, 77);
        Rig.put(console, 0x0080, 88);
        console.run(2);
        console.step();
        CHECK.due("zp,X wraps", console.core(0), 55);
        console.step();
        CHECK.due("(zp,X): the pointer's high byte is at 0", console.core(0), 66);
        CHECK.due("(zp),Y crosses", console.step(), 6);
        CHECK.due("(zp),Y: the pointer's high byte is at 0", console.core(0), 77);
        CHECK.due("abs,X from the last page crosses", console.step(), 5);
        CHECK.due("abs,X goes on at 0", console.core(0), 88);
        CHECK.due("a page crossed before costs nothing", console.step(), 6);
        CHECK.due("(zp,X) itself wraps", console.core(0), 99);
        GameConsole end = new GameConsole(Rig.MMC3);
        Rig.vectors(end, 0, 0xFFFF, 0);
        end.rom(511, 0xA9);
        end.rom(508, 0xFF);
        end.rom(509, 0xFF);
        end.write(0, 0x42);
        end.reset();
        end.step();
        core("an instruction over the end", end, 0x42, 0, 0, 0xFD, 0x24, 1);
    }

    private static void stack() {
        GameConsole console = Rig.with(Rig.MMC3, 0xA2, 0x00, 0x9A, 0xA9, 0x91, 0x48, 0x08, 0xA9, 0x00, 0x68, 0x28);
        console.run(3);
        CHECK.due("PHA", console.step(), 3);
        CHECK.due("pushed at 0x100", console.read(0x0100), 0x91);
        CHECK.due("S wraps", console.core(3), 0xFF);
        CHECK.due("PHP", console.step(), 3);
        CHECK.due("pushed with bits 16 and 32", console.read(0x01FF), 0xB4);
        CHECK.due("P itself", console.core(4), 0xA4);
        console.step();
        CHECK.due("PLA", console.step(), 4);
        core("PLA", console, 0xB4, 0, 0, 0xFF, 0xA4);
        CHECK.due("PLP", console.step(), 4);
        core("PLP", console, 0xB4, 0, 0, 0x00, 0xA1);
        core("PLA of 0", done(4, 0xA9, 0, 0x48, 0xA9, 1, 0x68), 0, 0, 0, 0xFD, 0x26);
    }

    private static void jumps() {
        GameConsole console = Rig.with(Rig.MMC3, 0x4C, 0xFE, 0x02);
        Rig.put(console, 0x02FE, 0x20, 0x45, 0x03);
        Rig.put(console, 0x0345, 0x60);
        Rig.put(console, 0x0301, 0x6C, 0xFF, 0x04);
        Rig.put(console, 0x0400, 0x78);
        Rig.put(console, 0x04FF, 0x56, 0x12);
        CHECK.due("JMP", console.step(), 3);
        CHECK.due("PC behind JMP", console.core(5), 0x02FE);
        CHECK.due("JSR", console.step(), 6);
        CHECK.due("PC behind JSR", console.core(5), 0x0345);
        CHECK.due("S behind JSR", console.core(3), 0xFB);
        CHECK.due("the high byte", console.read(0x01FD), 0x03);
        CHECK.due("the low byte", console.read(0x01FC), 0x00);
        CHECK.due("RTS", console.step(), 6);
        CHECK.due("PC behind RTS", console.core(5), 0x0301);
        CHECK.due("S behind RTS", console.core(3), 0xFD);
        CHECK.due("JMP ( )", console.step(), 5);
        CHECK.due("PC behind JMP ( )", console.core(5), 0x7856);
        GameConsole last = done(4, 0xA9, 0xFF, 0x48, 0x48, 0x60);
        CHECK.due("RTS over the end", last.core(5), 0);
        onTheStack();
    }

    /** Both bytes of the operand are read before anything is pushed, even onto themselves. */
    private static void onTheStack() {
        GameConsole console = Rig.at(Rig.MMC3, 0x01FB, 0x20, 0x34, 0x12);
        console.step();
        CHECK.due("JSR pushes over its own operand", console.core(5), 0x1234);
        CHECK.due("over the high byte", console.read(0x01FD), 0x01);
        CHECK.due("over the low byte", console.read(0x01FC), 0xFD);
    }

    private static void brk() {
        GameConsole console = Rig.with(Rig.MMC3, 0x58, 0x38, 0x00, 0xFF, 0xEA);
        Rig.put(console, Rig.IRQ_AT, 0x40);
        console.run(2);
        CHECK.due("BRK", console.step(), 7);
        core("BRK", console, 0, 0, 0, 0xFA, 0x25, Rig.IRQ_AT);
        CHECK.due("PC's high byte", console.read(0x01FD), 0x02);
        CHECK.due("two behind BRK", console.read(0x01FC), 0x04);
        CHECK.due("P with bits 16 and 32", console.read(0x01FB), 0x31);
        CHECK.due("RTI", console.step(), 6);
        core("RTI", console, 0, 0, 0, 0xFD, 0x21, 0x0204);
        GameConsole flags = Rig.with(Rig.MMC3, 0xA9, 0x12, 0x48, 0xA9, 0x34, 0x48, 0xA9, 0xFF, 0x48, 0x40);
        flags.run(7);
        core("RTI with all flags", flags, 0xFF, 0, 0, 0xFD, 0xEF, 0x1234);
    }

    private static void interrupts() {
        GameConsole console = Rig.with(Rig.MMC3, 0xEA, 0x58, 0xEA, 0xEA);
        Rig.put(console, Rig.IRQ_AT, 0xEA, 0x40);
        Rig.put(console, Rig.NMI_AT, 0xEA, 0x40);
        console.write(0x2000, 0x80);
        console.pass(29829);
        CHECK.due("both wait", console.core(7) + console.core(8), 2);
        CHECK.due("NMI goes first, I or not", console.step(), 7);
        core("NMI", console, 0, 0, 0, 0xFA, 0x24, Rig.NMI_AT);
        CHECK.due("not pending any more", console.core(7), 0);
        CHECK.due("pushed P has no bit 16", console.read(0x01FB), 0x24);
        CHECK.due("pushed PC, low", console.read(0x01FC), 0x00);
        CHECK.due("pushed PC, high", console.read(0x01FD), 0x02);
        console.run(2);
        CHECK.due("no IRQ while I is 1", console.step(), 2);
        CHECK.due("CLI", console.step(), 2);
        CHECK.due("IRQ", console.step(), 7);
        core("IRQ", console, 0, 0, 0, 0xFA, 0x24, Rig.IRQ_AT);
        CHECK.due("pushed P has I 0 and no bit 16", console.read(0x01FB), 0x20);
        CHECK.due("pushed PC", console.read(0x01FC), 0x02);
        CHECK.due("the line stays 1", console.core(8), 1);
        CHECK.due("I is 1, so no IRQ again", console.step(), 2);
        CHECK.due("RTI", console.step(), 6);
        CHECK.due("IRQ again at once", console.step(), 7);
        console.read(0x4015);
        console.run(2);
        CHECK.due("the line is 0: the instruction", console.step(), 2);
        CHECK.due("PC", console.core(5), 0x0203);
        theCartridgesLine();
    }

    private static void theCartridgesLine() {
        GameConsole console = Rig.with(Rig.MMC3, 0x58, 0xEA);
        console.step();
        console.write(0x2001, 0x10);
        console.write(0xE001, 0);
        console.pass(100);
        CHECK.due("the cartridge's line", console.core(8), 2);
        CHECK.due("IRQ by the cartridge", console.step(), 7);
        CHECK.due("PC", console.core(5), Rig.IRQ_AT);
    }

    /** V counts how often a step reaches register 7. */
    private static void eachByteOnce() {
        GameConsole once = Rig.with(Rig.MMC3, 0xAD, 0x07, 0x20, 0x8D, 0x07, 0x20, 0xEE, 0x07, 0x20, 0x4E, 0x07, 0x20);
        int[] due = {1, 2, 4, 6};
        for (int v : due) {
            once.step();
            CHECK.due("V behind the access", once.picture(0), v);
        }
        GameConsole indexed = Rig.with(Rig.MMC3, 0xA2, 8, 0xBD, 0xFF, 0x20, 0x9D, 0xFF, 0x20, 0xFE, 0xFF, 0x20);
        indexed.step();
        CHECK.due("LDA abs,X crossing", indexed.step(), 5);
        CHECK.due("V behind it", indexed.picture(0), 1);
        CHECK.due("STA abs,X crossing", indexed.step(), 5);
        CHECK.due("V behind it", indexed.picture(0), 2);
        CHECK.due("INC abs,X crossing", indexed.step(), 7);
        CHECK.due("V behind it", indexed.picture(0), 4);

        GameConsole program = new GameConsole(Rig.MMC3);
        Rig.vectors(program, 0, 0x2007, 0);
        Rig.pictureAddress(program, 0x2000);
        program.write(0x2007, 0);
        program.write(0x2007, 0xEA);
        Rig.pictureAddress(program, 0x2001);
        program.read(0x2007);
        program.reset();
        CHECK.due("NOP out of the picture's buffer", program.step(), 2);
        CHECK.due("V behind it: the next byte was not read", program.picture(0), 0x2003);
        CHECK.due("PC", program.core(5), 0x2008);

        GameConsole none = new GameConsole(Rig.MMC3);
        Rig.vectors(none, 0, 0x2007, 0);
        Rig.pictureAddress(none, 0x2000);
        none.write(0x2007, 0x02);
        Rig.pictureAddress(none, 0x2000);
        none.read(0x2007);
        none.reset();
        CHECK.due("no opcode", none.step(), 2);
        CHECK.due("it was read once", none.picture(0), 0x2002);
        CHECK.due("PC stays", none.core(5), 0x2007);
    }

    /** Beside an access there is 0x2002, 0x4015 or a pad, which tell if they were read. */
    private static void onlyWhatIsNeeded() {
        GameConsole console = Rig.with(Rig.MMC3, 0x8D, 0x02, 0x20, 0xAD, 0x01, 0x20, 0xA2, 0x01, 0x9D, 0x02, 0x20);
        Rig.passTo(console, 241, 1);
        console.step();
        CHECK.due("a store reads nothing", console.picture(6), 1);
        console.step();
        CHECK.due("a load reads its own address alone", console.picture(6), 1);
        console.run(2);
        CHECK.due("an indexed store reads nothing", console.picture(6), 1);
        GameConsole jump = Rig.with(Rig.MMC3, 0x6C, 0x15, 0x40);
        jump.write(0x4015, 1);
        jump.write(0x4003, 0);
        jump.pad(0, 0);
        jump.write(0x4016, 1);
        jump.write(0x4016, 0);
        jump.step();
        CHECK.due("JMP ( ) reads two bytes", jump.core(5), 0x0001);
    }

    private static void dma() {
        for (int odd = 0; odd < 2; odd++) {
            GameConsole console = Rig.with(Rig.MMC3, 0xA9, 0x03, 0x8D, 0x14, 0x40, 0xEE, 0x14, 0x40);
            for (int i = 0; i < 256; i += 2) {
                console.write(0x0300 + i + odd, i + odd ^ 0x3C);
            }
            console.write(0x2003, 0x80);
            console.pass(odd);
            console.step();
            CHECK.due("STA 0x4014, odd " + odd, console.step(), 4 + 513 + odd);
            CHECK.due("all cycles, odd " + odd, console.core(6), odd + 2 + 517 + odd);
            for (int i = 0; i < 256; i++) {
                CHECK.due("OAM " + i, console.oam(i + 0x80 & 0xFF), i % 2 == odd ? i ^ 0x3C : 0);
            }
            CHECK.due("the OAM address is as before", console.picture(7), 0x80);
            int parity = console.core(6) & 1;
            console.write(0x0180, 0x99);
            CHECK.due("INC 0x4014 asks for one DMA", console.step(), 6 + 513 + parity);
            CHECK.due("INC 0x4014 reads 0, so it is of page 1", console.oam(0), 0x99);
        }
        GameConsole late = Rig.with(Rig.MMC3, 0xEA, 0x8D, 0x14, 0x40);
        late.pass(1);
        late.step();
        CHECK.due("odd is told before the step, not in it", late.step(), 4 + 514);
        frameBeginsInAStep();
    }

    private static void frameBeginsInAStep() {
        GameConsole console = Rig.with(Rig.MMC3, 0xA9, 0x00, 0x8D, 0x17, 0x40, 0xEE, 0x17, 0x40);
        console.pass(1000);
        console.run(2);
        CHECK.due("the step's own cycles are in the new frame", console.sound(4), 4);
        console.step();
        CHECK.due("INC's own six too", console.sound(4), 6);
    }
}
