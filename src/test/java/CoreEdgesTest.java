/** Edges of THE CORE and of A STEP (promises 5, 6 and 11): wrap-around, pages, flags and interrupts. */
public final class CoreEdgesTest {
    private static final Check CHECK = new Check();
    private static final int[] READS_BY_X = {0x7D, 0x3D, 0xDD, 0x5D, 0xBD, 0x1D, 0xFD, 0xBC};
    private static final int[] READS_BY_Y = {0x79, 0x39, 0xD9, 0x59, 0xB9, 0x19, 0xF9, 0xBE};
    private static final int[] READS_BY_POINTER = {0x71, 0x31, 0xD1, 0x51, 0xB1, 0x11, 0xF1};
    private static final int[] CHANGES_BY_X = {0x1E, 0xDE, 0xFE, 0x5E, 0x3E, 0x7E};

    public static void main(String[] args) {
        registersAreBytes();
        memoryBytesWrap();
        carry();
        comparing();
        shifting();
        bitTest();
        stackWrapsDown();
        stackWrapsUp();
        pcWraps();
        branchesWrap();
        callsOverTheEnd();
        brkOverTheEnd();
        bit32();
        bit16();
        jumpWithinThePage();
        zeroPageWraps();
        pointersWrap();
        addressesWrap();
        pagesCrossed();
        pagesCrossedByOthers();
        pageCrossedBefore();
        branchTaken();
        branchToAnotherPage();
        decimalMeansNothing();
        otherOpcodes();
        CHECK.finish();
    }

    /** A console behind the loading of A, X, Y and P, with PC at the rest; S is 0xFD. */
    private static GameConsole loaded(int a, int x, int y, int p, int... rest) {
        GameConsole console = Rig.with(Rig.MMC3, 0xA9, p, 0x48, 0xA2, x, 0xA0, y, 0xA9, a, 0x28, 0x4C, 0x00, 0x03);
        Rig.put(console, 0x0300, rest);
        console.run(7);
        return console;
    }

    /** As the above, but S is another, which X is too, and P is as the loading of A leaves it. */
    private static GameConsole withStack(int s, int a, int... rest) {
        GameConsole console = Rig.with(Rig.MMC3, 0xA2, s, 0x9A, 0xA9, a, 0x4C, 0x00, 0x03);
        Rig.put(console, 0x0300, rest);
        console.run(4);
        return console;
    }

    private static void registersAreBytes() {
        CHECK.sentence("THE CORE has A, X, Y, S (bytes)");
        int[] opcodes = {0xE8, 0xC8, 0xCA, 0x88};
        for (int i = 0; i < opcodes.length; i++) {
            int from = i < 2 ? 0xFF : 0x00;
            int to = i < 2 ? 0x00 : 0xFF;
            GameConsole console = loaded(1, from, from, 0, opcodes[i]);
            console.step();
            CHECK.due("register " + i + " wraps", console.core(1 + i % 2), to);
            CHECK.due("P behind it", console.core(4), i < 2 ? 0x22 : 0xA0);
            GameConsole back = loaded(1, to, to, 0, opcodes[(i + 2) % 4]);
            back.step();
            CHECK.due("register " + i + " wraps back", back.core(1 + i % 2), from);
        }
        GameConsole sum = loaded(0xFF, 0, 0, 0, 0x69, 0x01);
        sum.step();
        CHECK.due("A behind 255 + 1", sum.core(0), 0);
        CHECK.due("P behind 255 + 1", sum.core(4), 0x23);
        GameConsole full = loaded(0xFF, 0, 0, 1, 0x69, 0xFF);
        full.step();
        CHECK.due("A behind 255 + 255 + 1", full.core(0), 0xFF);
        CHECK.due("P behind 255 + 255 + 1", full.core(4), 0xA1);
        GameConsole less = loaded(0x00, 0, 0, 0, 0xE9, 0xFF);
        less.step();
        CHECK.due("A behind 0 - 255 - 1", less.core(0), 0);
        CHECK.due("P behind 0 - 255 - 1", less.core(4), 0x22);
        GameConsole over = loaded(0x7F, 0, 0, 0, 0x69, 0x01);
        over.step();
        CHECK.due("P behind 127 + 1", over.core(4), 0xE0);
        GameConsole under = loaded(0x80, 0, 0, 1, 0xE9, 0x01);
        under.step();
        CHECK.due("P behind -128 - 1", under.core(4), 0x61);
        GameConsole shift = loaded(0x80, 0, 0, 0, 0x0A);
        shift.step();
        CHECK.due("A behind ASL of 128", shift.core(0), 0);
        CHECK.due("P behind ASL of 128", shift.core(4), 0x23);
    }

    private static void memoryBytesWrap() {
        CHECK.sentence("instructions .. with their flags (INC and DEC of a byte in memory)");
        int[] from = {0xFF, 0x00, 0x7F, 0x80};
        int[] opcodes = {0xE6, 0xC6, 0xE6, 0xC6};
        int[] to = {0x00, 0xFF, 0x80, 0x7F};
        int[] p = {0x22, 0xA0, 0xA0, 0x20};
        for (int i = 0; i < from.length; i++) {
            GameConsole console = loaded(1, 0, 0, 0, opcodes[i], 0x10);
            console.write(0x10, from[i]);
            console.step();
            CHECK.due("the byte from " + from[i], console.read(0x10), to[i]);
            CHECK.due("P from " + from[i], console.core(4), p[i]);
        }
    }

    private static void pBehind(String name, int a, int p, int due, int... program) {
        GameConsole console = loaded(a, 0x80, 0x7F, p, program);
        console.write(0x0010, a);
        console.step();
        CHECK.due("P behind " + name, console.core(4), due);
    }

    private static void carry() {
        CHECK.sentence("flags: C, V, N and Z at the ends of a byte (ADC, SBC)");
        pBehind("254 + 1", 254, 0, 0xA0, 0x69, 1);
        pBehind("254 + 1 + 1", 254, 1, 0x23, 0x69, 1);
        pBehind("255 + 0", 255, 0, 0xA0, 0x69, 0);
        pBehind("126 + 1", 126, 0, 0x20, 0x69, 1);
        pBehind("126 + 1 + 1", 126, 1, 0xE0, 0x69, 1);
        pBehind("128 + 128", 128, 0, 0x63, 0x69, 128);
        pBehind("128 + 255", 128, 0, 0x61, 0x69, 255);
        pBehind("127 + 128", 127, 0, 0xA0, 0x69, 128);
        pBehind("0 - 0", 0, 1, 0x23, 0xE9, 0);
        pBehind("0 - 0 - 1", 0, 0, 0xA0, 0xE9, 0);
        pBehind("1 - 1", 1, 1, 0x23, 0xE9, 1);
        pBehind("0 - 1", 0, 1, 0xA0, 0xE9, 1);
        pBehind("127 - 255", 127, 1, 0xE0, 0xE9, 255);
        pBehind("128 - 1", 128, 1, 0x61, 0xE9, 1);
        pBehind("128 - 0 - 1", 128, 0, 0x61, 0xE9, 0);
    }

    private static void comparing() {
        CHECK.sentence("flags: C, N and Z of a comparison (CMP, CPX, CPY)");
        pBehind("CMP equal", 5, 0, 0x23, 0xC9, 5);
        pBehind("CMP one less", 5, 0, 0x21, 0xC9, 4);
        pBehind("CMP one more", 5, 1, 0xA0, 0xC9, 6);
        pBehind("CMP 0 and 255", 0, 1, 0x20, 0xC9, 255);
        pBehind("CMP 255 and 0", 255, 0, 0xA1, 0xC9, 0);
        pBehind("CMP leaves V", 5, 64, 0x63, 0xC9, 5);
        pBehind("CPX equal", 0, 0, 0x23, 0xE0, 0x80);
        pBehind("CPX one less", 0, 0, 0x21, 0xE0, 0x7F);
        pBehind("CPX one more", 0, 1, 0xA0, 0xE0, 0x81);
        pBehind("CPY equal", 0, 0, 0x23, 0xC0, 0x7F);
        pBehind("CPY one less", 0, 0, 0x21, 0xC0, 0x7E);
        pBehind("CPY one more", 0, 1, 0xA0, 0xC0, 0x80);
    }

    private static void shifting() {
        CHECK.sentence("flags: what goes out of a byte at its ends (ASL, LSR, ROL, ROR)");
        int[] onA = {0x0A, 0x4A, 0x2A, 0x6A};
        int[] onMemory = {0x06, 0x46, 0x26, 0x66};
        int[] values = {0x00, 0x01, 0x80, 0xFF, 0x7F};
        for (int i = 0; i < 4; i++) {
            for (int value : values) {
                for (int carry = 0; carry < 2; carry++) {
                    int in = i < 2 ? 0 : carry;
                    boolean up = i % 2 == 0;
                    int to = up ? value * 2 % 256 + in : value / 2 + 128 * in;
                    int p = 32 | (up ? value / 128 : value % 2) | (to == 0 ? 2 : 0) | to & 128;
                    String name = "shift " + i + " of " + value + " with C " + carry;
                    pBehind(name + ", A", value, carry, p, onA[i]);
                    pBehind(name + ", memory", value, carry, p, onMemory[i], 0x10);
                    GameConsole console = loaded(value, 0, 0, carry, onA[i]);
                    console.step();
                    CHECK.due("A behind " + name, console.core(0), to);
                }
            }
        }
    }

    private static void bitTest() {
        CHECK.sentence("flags: N and V of BIT are the byte's own");
        int[] values = {0x00, 0x3F, 0x40, 0x80, 0xC0, 0xFF};
        for (int value : values) {
            GameConsole none = loaded(0x00, 0, 0, 0xC1, 0x24, 0x10);
            none.write(0x0010, value);
            none.step();
            CHECK.due("P of " + value + " with A 0", none.core(4), 0x23 | value & 0xC0);
            GameConsole all = loaded(0xFF, 0, 0, 0x03, 0x2C, 0x10, 0x00);
            all.write(0x0010, value);
            all.step();
            CHECK.due("P of " + value + " with A 255", all.core(4), 0x21 | value & 0xC0 | (value == 0 ? 2 : 0));
            CHECK.due("A stays", all.core(0), 0xFF);
        }
    }

    private static void stackWrapsDown() {
        CHECK.sentence("S (a byte): pushing at 0 goes on at 255");
        GameConsole pha = withStack(0, 0x5A, 0x48, 0x48);
        pha.run(2);
        CHECK.due("pushed at 0x100", pha.read(0x0100), 0x5A);
        CHECK.due("pushed at 0x1FF", pha.read(0x01FF), 0x5A);
        CHECK.due("not at 0x0FF", pha.read(0x00FF), 0);
        CHECK.due("S", pha.core(3), 0xFE);
        GameConsole jsr = withStack(0, 0, 0x20, 0x34, 0x12);
        jsr.step();
        CHECK.due("JSR's high byte at 0x100", jsr.read(0x0100), 0x03);
        CHECK.due("JSR's low byte at 0x1FF", jsr.read(0x01FF), 0x02);
        CHECK.due("S behind JSR", jsr.core(3), 0xFE);
        GameConsole brk = withStack(1, 0, 0x00);
        brk.step();
        CHECK.due("BRK's high byte at 0x101", brk.read(0x0101), 0x03);
        CHECK.due("BRK's low byte at 0x100", brk.read(0x0100), 0x02);
        CHECK.due("BRK's P at 0x1FF", brk.read(0x01FF), 0x36);
        CHECK.due("S behind BRK", brk.core(3), 0xFE);
    }

    private static void stackWrapsUp() {
        CHECK.sentence("S (a byte): pulling at 255 goes on at 0");
        GameConsole pla = withStack(0xFF, 1, 0x68);
        pla.write(0x0100, 0x81);
        pla.write(0x0200, 0x99);
        pla.step();
        CHECK.due("PLA", pla.core(0), 0x81);
        CHECK.due("S behind PLA", pla.core(3), 0);
        GameConsole plp = withStack(0xFF, 1, 0x28);
        plp.write(0x0100, 0x41);
        plp.step();
        CHECK.due("PLP", plp.core(4), 0x61);
        GameConsole rts = withStack(0xFE, 1, 0x60);
        rts.write(0x01FF, 0x33);
        rts.write(0x0100, 0x12);
        rts.step();
        CHECK.due("RTS", rts.core(5), 0x1234);
        CHECK.due("S behind RTS", rts.core(3), 0);
        GameConsole rti = withStack(0xFD, 1, 0x40);
        rti.write(0x01FE, 0xC3);
        rti.write(0x01FF, 0x78);
        rti.write(0x0100, 0x56);
        rti.step();
        CHECK.due("RTI", rti.core(5), 0x5678);
        CHECK.due("P behind RTI", rti.core(4), 0xE3);
        CHECK.due("S behind RTI", rti.core(3), 0);
    }

    /** PC is 0 on a new object, where a JMP to the end of the ROM stands. */
    private static GameConsole atTheEnd(int start, int... bytes) {
        GameConsole console = new GameConsole(Rig.MMC3);
        Rig.put(console, 0x0000, 0x4C, start & 0xFF, start >> 8);
        for (int i = 0; i < bytes.length; i++) {
            int address = start + i;
            if (address > 0xFFFF) {
                console.write(address, bytes[i]);
            } else {
                console.rom(448 + (address & 63), bytes[i]);
            }
        }
        return console;
    }

    private static void pcWraps() {
        CHECK.sentence("PC (16 bits)");
        GameConsole nop = atTheEnd(0xFFFF, 0xEA);
        nop.run(2);
        CHECK.due("NOP at the last address", nop.core(5), 0);
        GameConsole two = atTheEnd(0xFFFF, 0xA9);
        two.step();
        two.write(0x0000, 0x77);
        two.step();
        CHECK.due("the operand is at 0", two.core(0), 0x77);
        CHECK.due("PC behind it", two.core(5), 1);
        GameConsole three = atTheEnd(0xFFFE, 0xAD, 0x45);
        three.step();
        three.write(0x0000, 0x03);
        three.write(0x0345, 0x78);
        three.step();
        CHECK.due("the operand's high byte is at 0", three.core(0), 0x78);
        CHECK.due("PC behind it", three.core(5), 1);
        GameConsole late = atTheEnd(0xFFFF, 0xAD);
        late.step();
        late.write(0x0000, 0x45);
        late.write(0x0001, 0x03);
        late.write(0x0345, 0x79);
        late.step();
        CHECK.due("the whole operand is from 0 on", late.core(0), 0x79);
        CHECK.due("PC behind it", late.core(5), 2);
        GameConsole end = atTheEnd(0xFFFD, 0xAD, 0x45, 0x03);
        end.run(2);
        CHECK.due("the last byte is the operand's", end.core(5), 0);
    }

    private static void branchesWrap() {
        CHECK.sentence("PC (16 bits): branches over its ends");
        GameConsole back = new GameConsole(Rig.MMC3);
        Rig.put(back, 0x0000, 0xD0, 0xFB);
        CHECK.due("back from 0", back.step(), 4);
        CHECK.due("PC", back.core(5), 0xFFFD);
        GameConsole far = new GameConsole(Rig.MMC3);
        Rig.put(far, 0x0000, 0xD0, 0x80);
        CHECK.due("back from 0 by 128", far.step(), 4);
        CHECK.due("PC", far.core(5), 0xFF82);
        GameConsole on = atTheEnd(0xFFF0, 0xD0, 0x20);
        on.step();
        CHECK.due("over the end", on.step(), 4);
        CHECK.due("PC", on.core(5), 0x0012);
        GameConsole last = atTheEnd(0xFFFE, 0xD0, 0x10);
        last.step();
        CHECK.due("the next instruction is at 0", last.step(), 3);
        CHECK.due("PC", last.core(5), 0x0010);
        GameConsole stay = atTheEnd(0xFFFE, 0xD0, 0xFE);
        stay.step();
        CHECK.due("back to the last page from 0", stay.step(), 4);
        CHECK.due("PC", stay.core(5), 0xFFFE);
        GameConsole not = atTheEnd(0xFFFE, 0xF0, 0x10);
        not.step();
        CHECK.due("not taken at the end", not.step(), 2);
        CHECK.due("PC", not.core(5), 0x0000);
    }

    private static void callsOverTheEnd() {
        CHECK.sentence("PC (16 bits): JSR and RTS over its end");
        GameConsole last = atTheEnd(0xFFFD, 0x20, 0x00, 0x03);
        Rig.put(last, 0x0300, 0x60);
        last.run(2);
        CHECK.due("PC behind JSR", last.core(5), 0x0300);
        CHECK.due("pushed high", last.read(0x0100), 0xFF);
        CHECK.due("pushed low", last.read(0x01FF), 0xFF);
        last.step();
        CHECK.due("RTS of 0xFFFF", last.core(5), 0x0000);
        GameConsole over = atTheEnd(0xFFFE, 0x20, 0x00);
        over.step();
        over.write(0x0000, 0x03);
        over.step();
        CHECK.due("PC behind JSR, operand over the end", over.core(5), 0x0300);
        CHECK.due("pushed high", over.read(0x0100), 0x00);
        CHECK.due("pushed low", over.read(0x01FF), 0x00);
    }

    private static void brkOverTheEnd() {
        CHECK.sentence("PC (16 bits): what BRK pushes at its end");
        GameConsole last = atTheEnd(0xFFFF, 0x00);
        last.rom(510, 0x34);
        last.run(2);
        CHECK.due("BRK at 0xFFFF pushes 1, high", last.read(0x0100), 0x00);
        CHECK.due("BRK at 0xFFFF pushes 1, low", last.read(0x01FF), 0x01);
        CHECK.due("PC", last.core(5), 0x0034);
        GameConsole before = atTheEnd(0xFFFE, 0x00);
        before.rom(511, 0x12);
        before.run(2);
        CHECK.due("BRK at 0xFFFE pushes 0, high", before.read(0x0100), 0x00);
        CHECK.due("BRK at 0xFFFE pushes 0, low", before.read(0x01FF), 0x00);
        CHECK.due("PC", before.core(5), 0x1200);
    }

    private static void bit32() {
        CHECK.sentence("bit 32 always 1");
        CHECK.due("P of a new object", new GameConsole(0).core(4), 32);
        for (int p = 0; p < 256; p++) {
            GameConsole plp = loaded(0, 0, 0, p, 0x08);
            CHECK.due("P behind PLP of " + p, plp.core(4), p & ~16 | 32);
            plp.step();
            CHECK.due("what PHP pushes", plp.read(0x01FD) & 32, 32);
        }
        GameConsole rti = withStack(0x80, 0, 0x40);
        rti.step();
        CHECK.due("P behind RTI of 0", rti.core(4), 32);
    }

    private static void bit16() {
        CHECK.sentence("bit 16 is 1 only in what PHP and BRK push");
        GameConsole php = withStack(0x80, 0, 0x08, 0x28);
        php.step();
        CHECK.due("PHP pushes it", php.read(0x0180), 0x36);
        CHECK.due("P has it not", php.core(4), 0x26);
        php.step();
        CHECK.due("PLP does not take it", php.core(4), 0x26);
        GameConsole brk = withStack(0x80, 0, 0x00);
        brk.write(Rig.IRQ_AT, 0x40);
        brk.step();
        CHECK.due("BRK pushes it", brk.read(0x017E), 0x36);
        CHECK.due("P has it not", brk.core(4), 0x26);
        brk.step();
        CHECK.due("RTI does not take it", brk.core(4), 0x26);
    }

    private static void jumpWithinThePage() {
        CHECK.sentence("JMP ( ) reads its high byte within the same page");
        GameConsole end = loaded(0, 0, 0, 0, 0x6C, 0xFF, 0x04);
        end.write(0x04FF, 0x11);
        end.write(0x0400, 0x22);
        end.write(0x0500, 0x33);
        CHECK.due("cycles", end.step(), 5);
        CHECK.due("from a page's end", end.core(5), 0x2211);
        GameConsole before = loaded(0, 0, 0, 0, 0x6C, 0xFE, 0x04);
        before.write(0x04FE, 0x11);
        before.write(0x04FF, 0x22);
        before.step();
        CHECK.due("from the last but one", before.core(5), 0x2211);
        GameConsole zero = loaded(0, 0, 0, 0, 0x6C, 0xFF, 0x00);
        zero.write(0x00FF, 0x11);
        zero.write(0x0000, 0x22);
        zero.write(0x0100, 0x33);
        zero.step();
        CHECK.due("from the zero page's end", zero.core(5), 0x2211);
        GameConsole last = loaded(0, 0, 0, 0, 0x6C, 0xFF, 0xFF);
        last.rom(511, 0x11);
        last.rom(448, 0x22);
        last.write(0x0000, 0x33);
        last.step();
        CHECK.due("from the last address", last.core(5), 0x2211);
    }

    private static void zeroPageWraps() {
        CHECK.sentence("zero page addresses wrap");
        int[] byX = {0xB5, 0xB4, 0x15, 0x35, 0x55, 0x75};
        for (int opcode : byX) {
            GameConsole console = loaded(0, 0x20, 0, 0, opcode, 0xE1);
            console.write(0x0001, 0x40);
            console.write(0x0101, 0x80);
            CHECK.due("cycles of " + opcode, console.step(), 4);
            int taken = opcode == 0x35 ? 0 : 0x40;
            CHECK.due("zp,X of " + opcode, console.core(opcode == 0xB4 ? 2 : 0), taken);
        }
        GameConsole ldx = loaded(0, 0, 0xFF, 0, 0xB6, 0xFF);
        ldx.write(0x00FE, 0x41);
        ldx.write(0x01FE, 0x81);
        CHECK.due("LDX zp,Y cycles", ldx.step(), 4);
        CHECK.due("LDX zp,Y", ldx.core(1), 0x41);
        int[] stores = {0x95, 0x94, 0x96};
        for (int opcode : stores) {
            GameConsole console = loaded(9, 0x81, 0x81, 0, opcode, 0x80);
            CHECK.due("cycles of " + opcode, console.step(), 4);
            CHECK.due("stored at 1 by " + opcode, console.read(0x0001), opcode == 0x95 ? 9 : 0x81);
            CHECK.due("not at 0x101 by " + opcode, console.read(0x0101), 0);
        }
        int[] changes = {0x16, 0x36, 0x56, 0x76, 0xD6, 0xF6};
        int[] due = {0x0C, 0x0C, 0x03, 0x03, 0x05, 0x07};
        for (int i = 0; i < changes.length; i++) {
            GameConsole console = loaded(0, 0xFF, 0, 0, changes[i], 0x01);
            console.write(0x0000, 6);
            console.write(0x0100, 6);
            CHECK.due("cycles of " + changes[i], console.step(), 6);
            CHECK.due("changed at 0 by " + changes[i], console.read(0x0000), due[i]);
            CHECK.due("not at 0x100 by " + changes[i], console.read(0x0100), 6);
        }
    }

    private static void pointersWrap() {
        CHECK.sentence("zero page addresses wrap: those of a pointer too");
        GameConsole byX = loaded(0, 0xFE, 0, 0, 0xA1, 0x01);
        byX.write(0x00FF, 0x40);
        byX.write(0x0000, 0x04);
        byX.write(0x0100, 0x05);
        byX.write(0x0440, 0x66);
        byX.write(0x0540, 0x77);
        CHECK.due("(zp,X) cycles", byX.step(), 6);
        CHECK.due("(zp,X), the high byte at 0", byX.core(0), 0x66);
        GameConsole index = loaded(0, 0xFF, 0, 0, 0xA1, 0xFF);
        index.write(0x00FE, 0x40);
        index.write(0x00FF, 0x04);
        index.write(0x01FE, 0x41);
        index.write(0x01FF, 0x05);
        index.write(0x0440, 0x67);
        CHECK.due("(zp,X), the index wraps: cycles", index.step(), 6);
        CHECK.due("(zp,X), the index wraps", index.core(0), 0x67);
        GameConsole byY = loaded(0, 0, 3, 0, 0xB1, 0xFF);
        byY.write(0x00FF, 0x40);
        byY.write(0x0000, 0x04);
        byY.write(0x0100, 0x05);
        byY.write(0x0443, 0x68);
        byY.write(0x0543, 0x77);
        CHECK.due("(zp),Y cycles", byY.step(), 5);
        CHECK.due("(zp),Y, the high byte at 0", byY.core(0), 0x68);
        GameConsole store = loaded(0x55, 0xFE, 0, 0, 0x81, 0x01);
        store.write(0x00FF, 0x40);
        store.write(0x0000, 0x04);
        store.step();
        CHECK.due("STA (zp,X)", store.read(0x0440), 0x55);
        GameConsole storeY = loaded(0x56, 0, 0xFF, 0, 0x91, 0xFF);
        storeY.write(0x00FF, 0x40);
        storeY.write(0x0000, 0x04);
        storeY.step();
        CHECK.due("STA (zp),Y", storeY.read(0x053F), 0x56);
    }

    private static void addressesWrap() {
        CHECK.sentence("addressing: an index beyond 0xFFFF goes on at 0 (another page)");
        GameConsole byX = loaded(0, 0xFF, 0, 0, 0xBD, 0x05, 0xFF);
        byX.write(0x0004, 0x51);
        CHECK.due("abs,X cycles", byX.step(), 5);
        CHECK.due("abs,X", byX.core(0), 0x51);
        GameConsole byY = loaded(0, 0, 0x01, 0, 0xB9, 0xFF, 0xFF);
        byY.write(0x0000, 0x52);
        CHECK.due("abs,Y cycles", byY.step(), 5);
        CHECK.due("abs,Y", byY.core(0), 0x52);
        GameConsole pointer = loaded(0, 0, 0x10, 0, 0xB1, 0x40);
        pointer.write(0x0040, 0xF8);
        pointer.write(0x0041, 0xFF);
        pointer.write(0x0008, 0x53);
        CHECK.due("(zp),Y cycles", pointer.step(), 6);
        CHECK.due("(zp),Y", pointer.core(0), 0x53);
        GameConsole store = loaded(0x54, 0xFF, 0, 0, 0x9D, 0x05, 0xFF);
        store.step();
        CHECK.due("STA abs,X", store.read(0x0004), 0x54);
        GameConsole change = loaded(0, 0xFF, 0, 0, 0xFE, 0x05, 0xFF);
        change.step();
        CHECK.due("INC abs,X", change.read(0x0004), 1);
    }

    private static void cyclesBy(String name, int opcode, int low, int index, int due) {
        GameConsole console = loaded(0, index, index, 0, opcode, low, 0x04);
        CHECK.due(name + " " + opcode + " from " + low + " by " + index, console.step(), due);
    }

    private static void cyclesByPointer(int opcode, int low, int index, int due) {
        GameConsole console = loaded(0, index, index, 0, opcode, 0x40);
        console.write(0x0040, low);
        console.write(0x0041, 0x04);
        CHECK.due("(zp),Y " + opcode + " from " + low + " by " + index, console.step(), due);
    }

    private static void pagesCrossed() {
        CHECK.sentence("one more for a page crossed by an indexed read");
        int[] lows = {0xFF, 0xFF, 0x00, 0x01, 0x80, 0x80, 0x00};
        int[] indexes = {0x00, 0x01, 0xFF, 0xFF, 0x7F, 0x80, 0x00};
        int[] crossed = {0, 1, 0, 1, 0, 1, 0};
        for (int i = 0; i < lows.length; i++) {
            for (int opcode : READS_BY_X) {
                cyclesBy("abs,X", opcode, lows[i], indexes[i], 4 + crossed[i]);
            }
            for (int opcode : READS_BY_Y) {
                cyclesBy("abs,Y", opcode, lows[i], indexes[i], 4 + crossed[i]);
            }
            for (int opcode : READS_BY_POINTER) {
                cyclesByPointer(opcode, lows[i], indexes[i], 5 + crossed[i]);
            }
        }
    }

    private static void pagesCrossedByOthers() {
        CHECK.sentence("one more for a page crossed by an indexed read (no more for what also writes)");
        int[] lows = {0xFF, 0x00};
        for (int low : lows) {
            cyclesBy("STA abs,X", 0x9D, low, 1, 5);
            cyclesBy("STA abs,Y", 0x99, low, 1, 5);
            cyclesByPointer(0x91, low, 1, 6);
            for (int opcode : CHANGES_BY_X) {
                cyclesBy("change abs,X", opcode, low, 1, 7);
            }
        }
    }

    private static void pageCrossedBefore() {
        CHECK.sentence("one more for a page crossed by an indexed read (that one alone)");
        int[] opcodes = {0xA9, 0xA5, 0xAD, 0xB5, 0xA1, 0x69, 0x25, 0x2C};
        int[] cycles = {2, 3, 4, 4, 6, 2, 3, 4};
        for (int i = 0; i < opcodes.length; i++) {
            GameConsole console = loaded(0, 1, 1, 0, 0xBD, 0xFF, 0x04, opcodes[i], 0x10, 0x04);
            CHECK.due("crossing", console.step(), 5);
            CHECK.due("then " + opcodes[i], console.step(), cycles[i]);
        }
    }

    private static void branchTaken() {
        CHECK.sentence("one for a branch that is taken");
        int[] distances = {0x00, 0x01, 0x70, 0xFF, 0xFE, 0x8E};
        for (int distance : distances) {
            GameConsole console = Rig.at(Rig.MMC3, 0x0280, 0xD0, distance);
            CHECK.due("taken by " + distance, console.step(), 3);
            CHECK.due("PC by " + distance, console.core(5), 0x0282 + (byte) distance);
            GameConsole not = Rig.at(Rig.MMC3, 0x0280, 0xF0, distance);
            CHECK.due("not taken by " + distance, not.step(), 2);
            CHECK.due("PC, not taken by " + distance, not.core(5), 0x0282);
        }
    }

    private static void branchToAnotherPage() {
        CHECK.sentence("one more if that goes to another page than the next instruction's");
        int[] from = {0x0281, 0x0280, 0x0280, 0x027F, 0x027E, 0x02FD, 0x02FD, 0x02FE, 0x02FE, 0x02FF, 0x02FF};
        int[] distance = {0x7D, 0x7D, 0x7E, 0x80, 0x80, 0x00, 0x01, 0x00, 0xFF, 0xFE, 0xFF};
        int[] cycles = {4, 3, 4, 3, 3, 3, 4, 3, 4, 4, 3};
        for (int i = 0; i < from.length; i++) {
            GameConsole console = Rig.at(Rig.MMC3, from[i], 0xD0, distance[i]);
            String name = from[i] + " by " + distance[i];
            int target = from[i] + 2 + (byte) distance[i];
            CHECK.due("page of " + name, target >> 8 == from[i] + 2 >> 8 ? 3 : 4, cycles[i]);
            CHECK.due("from " + name, console.step(), cycles[i]);
            CHECK.due("PC from " + name, console.core(5), target);
            GameConsole not = Rig.at(Rig.MMC3, from[i], 0xF0, distance[i]);
            CHECK.due("not taken from " + name, not.step(), 2);
        }
    }

    private static void decimalMeansNothing() {
        CHECK.sentence("D means nothing for ADC and SBC.");
        GameConsole add = loaded(0x09, 0, 0, 8, 0x69, 0x01);
        add.step();
        CHECK.due("9 + 1", add.core(0), 0x0A);
        CHECK.due("P", add.core(4), 0x28);
        GameConsole carry = loaded(0x99, 0, 0, 9, 0x69, 0x00);
        carry.step();
        CHECK.due("0x99 + 0 + 1", carry.core(0), 0x9A);
        CHECK.due("P", carry.core(4), 0xA8);
        GameConsole less = loaded(0x10, 0, 0, 9, 0xE9, 0x01);
        less.step();
        CHECK.due("0x10 - 1", less.core(0), 0x0F);
        CHECK.due("P", less.core(4), 0x29);
    }

    private static void otherOpcodes() {
        CHECK.sentence("Any other opcode does nothing: PC stays, 2 cycles.");
        int[] others = {0x02, 0x03, 0x04, 0x0B, 0x12, 0x1A, 0x44, 0x5C, 0x80, 0x89, 0x9C, 0xAB, 0xEB, 0xF2, 0xFF};
        for (int opcode : others) {
            GameConsole console = loaded(1, 2, 3, 0xFF, opcode, 0x10, 0x10);
            int[] due = Look.at(console);
            CHECK.due("cycles of " + opcode, console.step(), 2);
            CHECK.due("200 times " + opcode, console.run(200), 400);
            for (int what = 0; what < 6; what++) {
                CHECK.due("core " + what + " behind " + opcode, console.core(what), due[what]);
            }
            CHECK.due("time goes on", console.core(6), due[6] + 402);
            CHECK.due("0x10 stays", console.read(0x10), 0);
        }
        GameConsole waiting = Rig.with(Rig.MMC3, 0x02);
        waiting.write(0x2000, 0x80);
        Rig.passTo(waiting, 241, 1);
        CHECK.due("an NMI is taken there", waiting.step(), 7);
        CHECK.due("PC", waiting.core(5), Rig.NMI_AT);
        CHECK.due("and comes back there, low", waiting.read(0x01FC), 0x00);
        CHECK.due("and comes back there, high", waiting.read(0x01FD), 0x02);
    }
}
