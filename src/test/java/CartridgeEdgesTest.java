/** Edges of THE CARTRIDGE (promises 9, 13 and 15): both kinds' registers, banks and the counting of lines. */
public final class CartridgeEdgesTest {
    private static final Check CHECK = new Check();

    public static void main(String[] args) {
        romBanksAreSmall();
        chrBanksAreSmall();
        mmc1Bit7();
        mmc1FifthBit();
        mmc1LowestFirst();
        mmc1RegisterByAddress();
        mmc1Control();
        mmc1FourBanks();
        mmc1FixedFirst();
        mmc1FixedLast();
        mmc1ChrModes();
        mmc1AtFirst();
        mmc3ByAddress();
        mmc3SelectNames();
        mmc3Mirroring();
        mmc3Prg();
        mmc3PairsOfChr();
        mmc3SinglesOfChr();
        mmc3Turned();
        mmc3Latch();
        mmc3CounterIsZero();
        mmc3Off();
        mmc3On();
        mmc3ToldOfALine();
        mmc3InterruptAtZero();
        mmc3AtFirst();
        mmc1HasNoCounter();
        CHECK.finish();
    }

    private static void shown(String name, GameConsole console, int from, int... due) {
        for (int i = 0; i < due.length; i++) {
            CHECK.due(name + ": cartridge " + (from + i), console.cartridge(from + i), due[i]);
        }
    }

    private static void romBanksAreSmall() {
        CHECK.sentence("8 banks of ROM for 8192 addresses each, in which the lowest 6 bits count");
        GameConsole console = new GameConsole(Rig.MMC1);
        int[] banks = {0, 1, 6, 7};
        for (int bank : banks) {
            console.rom(bank * 64, 0x10 + bank);
            console.rom(bank * 64 + 63, 0x20 + bank);
        }
        int[] offsets = {0, 64, 0x0FC0, 0x1000, 0x1FC0};
        for (int slot = 0; slot < 4; slot++) {
            for (int offset : offsets) {
                int address = 0x8000 + slot * 0x2000 + offset;
                CHECK.due("the first at " + address, console.read(address), 0x10 + banks[slot]);
                CHECK.due("the second at " + address, console.read(address + 1), 0);
                CHECK.due("the last at " + address, console.read(address + 63), 0x20 + banks[slot]);
            }
        }
    }

    private static void chrBanksAreSmall() {
        CHECK.sentence("8 banks of CHR for 1024 addresses, in which the lowest 4 bits count");
        GameConsole console = new GameConsole(Rig.MMC1);
        for (int bank = 0; bank < 8; bank++) {
            console.chr(bank * 16, 0x10 + bank);
            console.chr(bank * 16 + 15, 0x20 + bank);
        }
        int[] offsets = {0, 16, 0x01F0, 0x0200, 0x03F0};
        for (int bank = 0; bank < 8; bank++) {
            for (int offset : offsets) {
                int address = bank * 1024 + offset;
                CHECK.due("the first at " + address, console.memory(address), 0x10 + bank);
                CHECK.due("the second at " + address, console.memory(address + 1), 0);
                CHECK.due("the last at " + address, console.memory(address + 15), 0x20 + bank);
            }
        }
    }

    private static void mmc1Bit7() {
        CHECK.sentence("a byte written from 0x8000 on with bit 7: what was shifted in is gone, and PRG MODE is 3.");
        int[] addresses = {0x8000, 0xA000, 0xC000, 0xE000, 0xFFFF};
        int[] values = {0x80, 0xFF, 0x81};
        for (int address : addresses) {
            for (int value : values) {
                for (int count = 0; count < 5; count++) {
                    GameConsole console = new GameConsole(Rig.MMC1);
                    Rig.shift(console, 0xE000, 1);
                    Rig.shift(console, 0x8000, 0b10001);
                    shown("PRG mode 0 before", console, 0, 0, 1, 2, 3);
                    for (int i = 0; i < count; i++) {
                        console.write(0x8000, 1);
                    }
                    console.write(address, value);
                    shown("PRG mode 3 by " + value + " at " + address, console, 0, 2, 3, 6, 7);
                    CHECK.due("mirroring stays", console.cartridge(12), 1);
                    for (int i = 0; i < 4; i++) {
                        console.write(0x8000, 0);
                    }
                    CHECK.due("four bits more are not enough", console.cartridge(12), 1);
                    console.write(0x8000, 0);
                    CHECK.due("five are", console.cartridge(12), 0);
                }
            }
        }
        GameConsole chr = new GameConsole(Rig.MMC1);
        Rig.shift(chr, 0x8000, 0b11100);
        chr.write(0x8000, 0x80);
        shown("CHR mode stays", chr, 4, 0, 1, 2, 3, 0, 1, 2, 3);
    }

    private static void mmc1FifthBit() {
        CHECK.sentence("Else its bit 0 is shifted in ..; with the fifth one the five bits go to a register");
        GameConsole console = new GameConsole(Rig.MMC1);
        for (int round = 0; round < 4; round++) {
            int old = console.cartridge(12);
            int mirroring = 3 - round;
            for (int i = 0; i < 5; i++) {
                CHECK.due("before bit " + i + " of round " + round, console.cartridge(12), old);
                console.write(0x8000, mirroring >> i & 1 | 0x7E);
            }
            CHECK.due("behind the fifth of round " + round, console.cartridge(12), mirroring);
        }
    }

    private static void mmc1LowestFirst() {
        CHECK.sentence("its bit 0 is shifted in, the lowest first");
        for (int bits = 0; bits < 32; bits++) {
            GameConsole console = new GameConsole(Rig.MMC1);
            Rig.shift(console, 0xA000, 1);
            Rig.shift(console, 0x8000, bits);
            CHECK.due("mirroring of " + bits, console.cartridge(12), bits & 3);
            CHECK.due("the first bank of " + bits, console.cartridge(0), 0);
            CHECK.due("the last bank of " + bits, console.cartridge(3), new int[] {3, 3, 1, 7}[bits >> 2 & 3]);
            CHECK.due("the first bank of CHR of " + bits, console.cartridge(4), bits >> 4 == 1 ? 4 : 0);
        }
    }

    private static void mmc1RegisterByAddress() {
        CHECK.sentence("to a register by bits 13 and 14 of the address");
        int[] edges = {0x8000, 0x9FFF, 0xA000, 0xBFFF, 0xC000, 0xDFFF, 0xE000, 0xFFFF};
        for (int i = 0; i < edges.length; i++) {
            GameConsole console = new GameConsole(Rig.MMC1);
            Rig.shift(console, 0x8000, 0b11100);
            for (int bit = 0; bit < 4; bit++) {
                console.write(edges[(i + 3) % 8], 1);
            }
            console.write(edges[i], 0);
            int register = i / 2;
            CHECK.due("mirroring by " + edges[i], console.cartridge(12), register == 0 ? 3 : 0);
            CHECK.due("CHR mode by " + edges[i], console.cartridge(8), register == 0 || register == 2 ? 4 : 0);
            CHECK.due("first CHR by " + edges[i], console.cartridge(4), register == 1 ? 4 : 0);
            CHECK.due("PRG by " + edges[i], console.cartridge(0), register == 3 ? 6 : 0);
        }
    }

    private static void mmc1Control() {
        CHECK.sentence("0 CONTROL: mirroring (bits 0, 1), PRG mode (2, 3), CHR MODE (4)");
        GameConsole ones = new GameConsole(Rig.MMC1);
        Rig.shift(ones, 0x8000, 0b11111);
        shown("all ones", ones, 0, 0, 1, 6, 7, 0, 1, 2, 3, 0, 1, 2, 3, 3, 0);
        Rig.shift(ones, 0x8000, 0b00000);
        shown("all zeros", ones, 0, 0, 1, 2, 3, 0, 1, 2, 3, 4, 5, 6, 7, 0, 0);
    }

    private static GameConsole mmc1With(int control, int prg) {
        GameConsole console = new GameConsole(Rig.MMC1);
        Rig.shift(console, 0xE000, prg);
        Rig.shift(console, 0x8000, control);
        return console;
    }

    private static void mmc1FourBanks() {
        CHECK.sentence("PRG mode 0, 1: from 0x8000 on four banks, from 4 * (bit 1 of the PRG bank) on");
        int[] prg = {0, 1, 2, 3, 4, 6, 29, 31};
        int[] from = {0, 0, 4, 4, 0, 4, 0, 4};
        for (int i = 0; i < prg.length; i++) {
            for (int mode = 0; mode < 2; mode++) {
                shown("mode " + mode + ", bank " + prg[i], mmc1With(mode << 2, prg[i]), 0,
                    from[i], from[i] + 1, from[i] + 2, from[i] + 3);
            }
        }
    }

    private static void mmc1FixedFirst() {
        CHECK.sentence("2: the banks 0, 1, then those from 2 * (PRG bank mod 4) on");
        int[] prg = {0, 1, 2, 3, 4, 7, 28, 31};
        int[] from = {0, 2, 4, 6, 0, 6, 0, 6};
        for (int i = 0; i < prg.length; i++) {
            shown("mode 2, bank " + prg[i], mmc1With(0b01000, prg[i]), 0, 0, 1, from[i], from[i] + 1);
        }
    }

    private static void mmc1FixedLast() {
        CHECK.sentence("3: those, then 6, 7");
        int[] prg = {0, 1, 2, 3, 4, 7, 28, 31};
        int[] from = {0, 2, 4, 6, 0, 6, 0, 6};
        for (int i = 0; i < prg.length; i++) {
            shown("mode 3, bank " + prg[i], mmc1With(0b01100, prg[i]), 0, from[i], from[i] + 1, 6, 7);
        }
    }

    private static void mmc1ChrModes() {
        CHECK.sentence("CHR mode 0: banks 0 .. 7; 1: four from 4 * (bit 0 of the first), four from 4 * (bit 0 of the "
            + "second) on.");
        int[] registers = {0, 1, 2, 30, 31};
        for (int first : registers) {
            for (int second : registers) {
                GameConsole console = new GameConsole(Rig.MMC1);
                Rig.shift(console, 0xA000, first);
                Rig.shift(console, 0xC000, second);
                String name = first + " and " + second;
                shown("mode 0, " + name, console, 4, 0, 1, 2, 3, 4, 5, 6, 7);
                Rig.shift(console, 0x8000, 0b10000);
                int low = first % 2 * 4;
                int high = second % 2 * 4;
                shown("mode 1, " + name, console, 4, low, low + 1, low + 2, low + 3,
                    high, high + 1, high + 2, high + 3);
            }
        }
    }

    private static void mmc1AtFirst() {
        CHECK.sentence("At first all registers are 0 but PRG mode, 3.");
        shown("MMC1", new GameConsole(Rig.MMC1), 0, 0, 1, 6, 7, 0, 1, 2, 3, 4, 5, 6, 7, 0, 0);
        GameConsole chr = new GameConsole(Rig.MMC1);
        Rig.shift(chr, 0x8000, 0b10000);
        shown("MMC1, CHR registers and PRG bank", chr, 0, 0, 1, 2, 3, 0, 1, 2, 3, 0, 1, 2, 3, 0);
    }

    private static void mmc3ByAddress() {
        CHECK.sentence("by the address's bits 13 and 14, and bit 0");
        int[] selects = {0x8000, 0x8002, 0x9FFE};
        int[] registers = {0x8001, 0x8003, 0x9FFF};
        for (int select : selects) {
            for (int register : registers) {
                GameConsole console = new GameConsole(Rig.MMC3);
                console.write(select, 7);
                console.write(register, 5);
                shown("by " + select + " and " + register, console, 0, 0, 5, 6, 7);
            }
        }
        int[] latches = {0xC000, 0xDFFE};
        int[] zeros = {0xC001, 0xDFFF};
        for (int i = 0; i < 2; i++) {
            GameConsole console = new GameConsole(Rig.MMC3);
            console.write(latches[i], 9);
            console.write(0x2001, 8);
            console.pass(100);
            CHECK.due("the latch by " + latches[i], console.cartridge(13), 9);
            console.write(zeros[i], 5);
            CHECK.due("the counter by " + zeros[i], console.cartridge(13), 0);
            console.pass(114);
            CHECK.due("the latch is as it was", console.cartridge(13), 9);
        }
    }

    private static void mmc3SelectNames() {
        CHECK.sentence("0 odd: the register R0 .. R7 that the lowest three bits of SELECT name");
        int[] places = {4, 6, 8, 9, 10, 11, 0, 1};
        int[] first = {0, 1, 0, 1, 0, 0, 0, 0, 2};
        for (int register = 0; register < 8; register++) {
            int[] selects = {register, register | 0x38};
            for (int select : selects) {
                GameConsole console = new GameConsole(Rig.MMC3);
                console.write(0x8000, select);
                console.write(0x8001, 4);
                for (int what = 0; what < 13; what++) {
                    int old = what < 2 ? 0 : what < 4 ? what + 4 : first[what - 4];
                    boolean changed = what == places[register] || register < 2 && what == places[register] + 1;
                    CHECK.due("R" + register + " by " + select + ": " + what, console.cartridge(what),
                        changed ? old + 4 : old);
                }
            }
        }
    }

    private static void mmc3Mirroring() {
        CHECK.sentence("1 even: mirroring 2, or 3 if bit 0 is 1");
        int[] addresses = {0xA000, 0xBFFE};
        int[] values = {0x01, 0x00, 0xFF, 0xFE, 0x03, 0x02};
        for (int address : addresses) {
            GameConsole console = new GameConsole(Rig.MMC3);
            for (int value : values) {
                console.write(address, value);
                CHECK.due("by " + value + " at " + address, console.cartridge(12), 2 + value % 2);
                console.write(address + 1, value + 1);
                CHECK.due("an odd address does nothing", console.cartridge(12), 2 + value % 2);
            }
        }
    }

    private static GameConsole mmc3With(int register, int value, int select) {
        GameConsole console = new GameConsole(Rig.MMC3);
        console.write(0x8000, register);
        console.write(0x8001, value);
        console.write(0x8000, select);
        return console;
    }

    private static void mmc3Prg() {
        CHECK.sentence("PRG from 0x8000 on: R6, R7, 6, 7 (banks mod 8); with bit 6 of SELECT 6, R7, R6, 7.");
        int[] values = {0, 1, 5, 7, 8, 9, 63, 64, 128, 255};
        for (int value : values) {
            shown("R6 " + value, mmc3With(6, value, 0), 0, value % 8, 0, 6, 7);
            shown("R7 " + value, mmc3With(7, value, 0xBF), 0, 0, value % 8, 6, 7);
            shown("R6 " + value + " with bit 6", mmc3With(6, value, 0x40), 0, 6, 0, value % 8, 7);
            shown("R7 " + value + " with bit 6", mmc3With(7, value, 0xFF), 0, 6, value % 8, 0, 7);
        }
    }

    private static void mmc3PairsOfChr() {
        CHECK.sentence("R0 and R1 stand for two banks each (the even one first)");
        int[] values = {0, 1, 2, 5, 6, 7, 8, 9, 254, 255};
        for (int value : values) {
            int even = value % 8 / 2 * 2;
            shown("R0 " + value, mmc3With(0, value, 0), 4, even, even + 1, 0, 1, 0, 0, 0, 0);
            shown("R1 " + value, mmc3With(1, value, 0), 4, 0, 1, even, even + 1, 0, 0, 0, 0);
        }
    }

    private static void mmc3SinglesOfChr() {
        CHECK.sentence("R2 .. R5 for one: R0, R1, R2, R3, R4, R5");
        int[] values = {1, 7, 8, 9, 255};
        for (int register = 2; register < 6; register++) {
            for (int value : values) {
                int[] due = {0, 1, 0, 1, 0, 0, 0, 0};
                due[register + 2] = value % 8;
                shown("R" + register + " " + value, mmc3With(register, value, 0), 4, due);
            }
        }
    }

    private static void mmc3Turned() {
        CHECK.sentence("with bit 7 of SELECT the four of R2 .. R5 come first.");
        for (int register = 0; register < 6; register++) {
            int[] due = {0, 0, 0, 0, 0, 1, 0, 1};
            if (register < 2) {
                due[4 + 2 * register] = 6;
                due[5 + 2 * register] = 7;
            } else {
                due[register - 2] = 6;
            }
            shown("R" + register, mmc3With(register, 6, 0x80), 4, due);
            shown("R" + register + ", PRG", mmc3With(register, 6, 0x80), 0, 0, 0, 6, 7);
        }
    }

    /** Told of lines from the first line on; latch and interrupts as asked. */
    private static GameConsole counting(int latch, boolean interrupts) {
        GameConsole console = new GameConsole(Rig.MMC3);
        console.write(0x2001, 8);
        console.write(0xC000, latch);
        if (interrupts) {
            console.write(0xE001, 0);
        }
        return console;
    }

    private static void mmc3Latch() {
        CHECK.sentence("2 even: the LATCH");
        int[] latches = {0, 1, 127, 128, 255};
        for (int latch : latches) {
            GameConsole console = counting(latch, false);
            CHECK.due("the counter waits for a line", console.cartridge(13), 0);
            console.pass(100);
            CHECK.due("the counter of latch " + latch, console.cartridge(13), latch);
            console.write(0xC000, 77);
            CHECK.due("another latch leaves it", console.cartridge(13), latch);
        }
    }

    private static void mmc3CounterIsZero() {
        CHECK.sentence("2 odd: the COUNTER is 0");
        GameConsole console = counting(50, true);
        console.pass(300);
        CHECK.due("the counter before", console.cartridge(13), 49);
        console.write(0xC001, 0xFF);
        CHECK.due("the counter", console.cartridge(13), 0);
        CHECK.due("no interrupt by that", console.core(8), 0);
        console.pass(114);
        CHECK.due("at the next line it is the latch", console.cartridge(13), 50);
        CHECK.due("no interrupt by that either", console.core(8), 0);
    }

    private static void mmc3Off() {
        CHECK.sentence("3 even: its line's interrupts are off, and its IRQ line is 0");
        int[] addresses = {0xE000, 0xFFFE};
        for (int address : addresses) {
            GameConsole console = counting(0, true);
            console.pass(100);
            CHECK.due("the line before", console.core(8), 2);
            console.write(address, 0xFF);
            CHECK.due("the line", console.core(8), 0);
            console.pass(300);
            CHECK.due("no more of them", console.core(8), 0);
        }
        GameConsole counter = counting(9, true);
        counter.pass(100);
        counter.write(0xE000, 0);
        CHECK.due("the counter stays", counter.cartridge(13), 9);
        counter.pass(114);
        CHECK.due("and is still counted", counter.cartridge(13), 8);
    }

    private static void mmc3On() {
        CHECK.sentence("3 odd: on");
        int[] addresses = {0xE001, 0xFFFF};
        for (int address : addresses) {
            GameConsole console = counting(0, false);
            console.pass(100);
            CHECK.due("off at first", console.core(8), 0);
            console.write(address, 0);
            CHECK.due("no line by that alone", console.core(8), 0);
            console.pass(114);
            CHECK.due("at the next line", console.core(8), 2);
            console.write(address, 0);
            CHECK.due("on again leaves it 1", console.core(8), 2);
        }
    }

    private static void mmc3ToldOfALine() {
        CHECK.sentence("Told of a line: the counter becomes the latch if it is 0, else 1 less");
        int[] latches = {0, 1, 2, 255};
        for (int latch : latches) {
            GameConsole console = counting(latch, false);
            int due = 0;
            console.pass(100);
            for (int line = 0; line < 200; line++) {
                due = due == 0 ? latch : due - 1;
                CHECK.due("latch " + latch + ", line " + line, console.cartridge(13), due);
                console.pass(line % 3 == 0 ? 113 : 114);
            }
        }
        GameConsole whole = counting(255, false);
        whole.pass(30000);
        whole.pass(1000);
        CHECK.due("251 lines at once, the first one taking the latch", whole.cartridge(13), 255 - 250);
    }

    private static void mmc3InterruptAtZero() {
        CHECK.sentence("if it is 0 then and interrupts are on, the IRQ line is 1.");
        int[] latches = {0, 1, 2, 5};
        for (int latch : latches) {
            GameConsole console = counting(latch, true);
            console.pass(83);
            for (int line = 0; line <= latch; line++) {
                CHECK.due("latch " + latch + ", before line " + line, console.core(8), 0);
                console.pass(line % 3 == 0 ? 113 : 114);
            }
            CHECK.due("latch " + latch + ", behind the last", console.core(8), 2);
            CHECK.due("the counter", console.cartridge(13), 0);
            console.pass(114);
            CHECK.due("latch " + latch + ", it stays 1", console.core(8), 2);
        }
    }

    private static void mmc3AtFirst() {
        CHECK.sentence("At first all is 0 (mirroring 2).");
        shown("MMC3", new GameConsole(Rig.MMC3), 0, 0, 0, 6, 7, 0, 1, 0, 1, 0, 0, 0, 0, 2, 0);
        GameConsole first = new GameConsole(Rig.MMC3);
        first.write(0x8001, 4);
        CHECK.due("SELECT names R0 at first", first.cartridge(4), 4);
        GameConsole latch = new GameConsole(Rig.MMC3);
        latch.write(0x2001, 8);
        latch.pass(1000);
        CHECK.due("the latch is 0, so the counter is", latch.cartridge(13), 0);
        CHECK.due("interrupts are off", latch.core(8), 0);
    }

    private static void mmc1HasNoCounter() {
        CHECK.sentence("the counter of MMC3 (13; 0 for MMC1)");
        GameConsole console = new GameConsole(Rig.MMC1);
        console.write(0x2001, 0x18);
        console.write(0xC000, 5);
        console.write(0xE001, 1);
        console.pass(1000);
        CHECK.due("the counter", console.cartridge(13), 0);
        CHECK.due("the line", console.core(8), 0);
    }
}
