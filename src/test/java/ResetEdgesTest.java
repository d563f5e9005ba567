/** Edges of reset (promise 4): wrap-around, what was already so, and what reset leaves as it was. */
public final class ResetEdgesTest {
    private static final Check CHECK = new Check();

    public static void main(String[] args) {
        stackWraps();
        iIsOne();
        pcOfTheBankThatIsThere();
        pictureRegisters();
        noNmi();
        lengths();
        frameLine();
        shiftedIn();
        nothingElse();
        memoryStays();
        CHECK.finish();
    }

    private static void stackWraps() {
        CHECK.sentence("S is 3 less (a byte)");
        for (int s = 0; s < 256; s++) {
            GameConsole console = Rig.with(Rig.MMC1, 0xA2, s, 0x9A);
            console.run(2);
            console.reset();
            CHECK.due("S from " + s, console.core(3), s - 3 & 0xFF);
        }
        GameConsole empty = new GameConsole(Rig.MMC1);
        empty.write(0x0100, 0x77);
        empty.write(0x01FF, 0x78);
        empty.write(0x01FE, 0x79);
        empty.reset();
        CHECK.due("S from the 0 of a new object", empty.core(3), 253);
        CHECK.due("nothing is pushed at 0x100", empty.read(0x0100), 0x77);
        CHECK.due("nothing is pushed at 0x1FF", empty.read(0x01FF), 0x78);
        CHECK.due("nothing is pushed at 0x1FE", empty.read(0x01FE), 0x79);
    }

    private static void iIsOne() {
        CHECK.sentence("I is 1");
        for (int p = 0; p < 256; p++) {
            GameConsole console = Rig.with(Rig.MMC1, 0xA9, p, 0x48, 0x28);
            console.run(3);
            console.reset();
            CHECK.due("P from " + p, console.core(4), p & ~16 | 32 | 4);
        }
    }

    private static void pcOfTheBankThatIsThere() {
        CHECK.sentence("PC the word at 0xFFFC");
        for (int bank = 0; bank < 4; bank++) {
            GameConsole console = new GameConsole(Rig.MMC1);
            for (int other = 0; other < 8; other++) {
                console.rom(other * 64 + 60, other);
                console.rom(other * 64 + 61, 0xF0 + other);
            }
            Rig.shift(console, 0x8000, 0b01000);
            Rig.shift(console, 0xE000, bank);
            console.reset();
            CHECK.due("PC of PRG bank " + bank, console.core(5), (0xF0 + 2 * bank + 1) << 8 | 2 * bank + 1);
        }
        int[] words = {0x0000, 0x00FF, 0xFF00, 0xFFFF, 0x8000};
        for (int word : words) {
            GameConsole console = new GameConsole(Rig.MMC3);
            Rig.vectors(console, 0x1234, word, 0x5678);
            console.reset();
            CHECK.due("PC of " + word, console.core(5), word);
        }
    }

    private static void pictureRegisters() {
        CHECK.sentence("CTRL, MASK, W are 0");
        GameConsole console = Rig.busy(Rig.MMC3);
        CHECK.due("W before", console.picture(3), 1);
        console.reset();
        CHECK.due("CTRL", console.picture(4), 0);
        CHECK.due("MASK", console.picture(5), 0);
        CHECK.due("W", console.picture(3), 0);
        console.write(0x2006, 0x21);
        CHECK.due("the next write to 6 is a first one", console.picture(1) >> 8, 0x21);
        GameConsole zero = new GameConsole(Rig.MMC3);
        zero.reset();
        CHECK.due("W that was 0", zero.picture(3), 0);
    }

    private static void noNmi() {
        CHECK.sentence("no NMI is pending");
        GameConsole console = Rig.busy(Rig.MMC1);
        CHECK.due("pending before", console.core(7), 1);
        console.reset();
        CHECK.due("pending behind", console.core(7), 0);
        CHECK.due("VBLANK stays", console.picture(6), 1);
        CHECK.due("so the next step is the program's first", console.step(), 2);
        CHECK.due("PC behind it", console.core(5), Rig.START + 2);
    }

    private static void lengths() {
        CHECK.sentence("lengths are 0 and not enabled");
        GameConsole console = Rig.busy(Rig.MMC3);
        console.reset();
        for (int channel = 0; channel < 4; channel++) {
            CHECK.due("length " + channel, console.sound(channel), 0);
            console.write(0x4003 + 4 * channel, 8);
            CHECK.due("length " + channel + " written", console.sound(channel), 0);
        }
        console.write(0x4015, 4);
        for (int channel = 0; channel < 4; channel++) {
            console.write(0x4003 + 4 * channel, 8);
            CHECK.due("length " + channel + " enabled anew", console.sound(channel), channel == 2 ? 254 : 0);
        }
    }

    private static void frameLine() {
        CHECK.sentence("the frame's IRQ line is 0");
        GameConsole mmc1 = Rig.busy(Rig.MMC1);
        CHECK.due("the line before", mmc1.core(8), 1);
        mmc1.reset();
        CHECK.due("the line behind", mmc1.core(8), 0);
        CHECK.due("the line read", mmc1.read(0x4015), 0);
        GameConsole mmc3 = Rig.busy(Rig.MMC3);
        CHECK.due("both lines before", mmc3.core(8), 3);
        mmc3.reset();
        CHECK.due("the cartridge's line stays", mmc3.core(8), 2);
    }

    private static void shiftedIn() {
        CHECK.sentence("what was shifted in (MMC1) is gone");
        for (int count = 0; count < 5; count++) {
            GameConsole console = new GameConsole(Rig.MMC1);
            for (int i = 0; i < count; i++) {
                console.write(0x8000, 1);
            }
            console.reset();
            for (int i = 0; i < 4; i++) {
                console.write(0x8000, i == 1 ? 1 : 0);
                CHECK.due(count + " before, then " + i, console.cartridge(12), 0);
            }
            console.write(0x8000, 0);
            CHECK.due(count + " before, then the fifth", console.cartridge(12), 2);
        }
        GameConsole set = new GameConsole(Rig.MMC1);
        Rig.shift(set, 0x8000, 0b10001);
        Rig.shift(set, 0xA000, 1);
        Rig.shift(set, 0xE000, 3);
        set.reset();
        int[] due = {4, 5, 6, 7, 4, 5, 6, 7, 0, 1, 2, 3, 1, 0};
        for (int what = 0; what < due.length; what++) {
            CHECK.due("registers that are full stay: " + what, set.cartridge(what), due[what]);
        }
    }

    private static void nothingElse() {
        CHECK.sentence("Reset: .. (and nothing beside what is named)");
        for (int kind = 0; kind < 2; kind++) {
            GameConsole console = Rig.busy(kind);
            int[] due = Look.at(console);
            console.reset();
            due[3] -= 3;
            due[4] |= 4;
            due[5] = Rig.START;
            due[7] = 0;
            due[8] &= 2;
            int[] zero = {9 + 3, 9 + 4, 9 + 5, 34, 35, 36, 37};
            for (int i : zero) {
                due[i] = 0;
            }
            CHECK.dueSame("reset", due, Look.at(console));
        }
    }

    private static void memoryStays() {
        CHECK.sentence("Reset: .. (memory is not named)");
        GameConsole console = new GameConsole(Rig.MMC3);
        console.write(0x07FF, 1);
        console.write(0x60FF, 2);
        console.rom(448, 3);
        console.chr(5, 4);
        console.write(0x2003, 0xFF);
        console.write(0x2004, 5);
        Rig.pictureAddress(console, 0x2001);
        console.write(0x2007, 6);
        Rig.pictureAddress(console, 0x3F1F);
        console.write(0x2007, 7);
        console.pad(1, 0xFE);
        console.write(0x4016, 1);
        console.reset();
        CHECK.due("RAM", console.read(0x07FF), 1);
        CHECK.due("own RAM", console.read(0x60FF), 2);
        CHECK.due("ROM", console.read(0xE000), 3);
        CHECK.due("CHR", console.memory(0x0005), 4);
        CHECK.due("OAM", console.oam(0xFF), 5);
        CHECK.due("name tables", console.memory(0x2001), 6);
        CHECK.due("palette", console.memory(0x3F1F), 7);
        CHECK.due("strobe and buttons", console.read(0x4017), 0);
        CHECK.due("strobe and buttons again", console.read(0x4017), 0);
    }
}
