/** Edges of THE BUS (promises 8 and 9): where one part ends and the next begins, what is not named, and DMA. */
public final class BusEdgesTest {
    private static final Check CHECK = new Check();

    public static void main(String[] args) {
        ram();
        pictureRegisters();
        soundPadsAndDma();
        ownRam();
        romAndRegisters();
        readAsZero();
        writingDoesNothing();
        dmaPages();
        dmaInOrder();
        dmaCycles();
        dmaOnlyOnce();
        CHECK.finish();
    }

    private static void ram() {
        CHECK.sentence("0 .. 0x1FFF the RAM (the lowest 11 bits count).");
        for (int mirror = 0; mirror < 0x2000; mirror += 0x0800) {
            GameConsole console = new GameConsole(Rig.MMC1);
            console.write(mirror, 0x11);
            console.write(mirror + 0x07FF, 0x22);
            for (int other = 0; other < 0x2000; other += 0x0800) {
                CHECK.due("the first at " + other, console.read(other), 0x11);
                CHECK.due("the second at " + other, console.read(other + 1), 0);
                CHECK.due("the last but one at " + other, console.read(other + 0x07FE), 0);
                CHECK.due("the last at " + other, console.read(other + 0x07FF), 0x22);
            }
        }
        GameConsole bits = new GameConsole(Rig.MMC1);
        for (int bit = 0; bit < 11; bit++) {
            bits.write(1 << bit, bit + 1);
        }
        for (int bit = 0; bit < 11; bit++) {
            CHECK.due("bit " + bit + " of the address counts", bits.read(1 << bit), bit + 1);
        }
        CHECK.due("no bit", bits.read(0), 0);
    }

    private static void pictureRegisters() {
        CHECK.sentence("0x2000 .. 0x3FFF the registers of the PICTURE UNIT (the lowest 3 bits).");
        int[] bases = {0x2000, 0x2008, 0x20F8, 0x2800, 0x3000, 0x3F00, 0x3FF8};
        for (int base : bases) {
            GameConsole console = new GameConsole(Rig.MMC1);
            console.write(base, 0x44);
            console.write(base + 1, 0x55);
            console.write(base + 3, 0xFF);
            console.write(base + 4, 0x66);
            console.write(base + 6, 0x21);
            console.write(base + 6, 0x34);
            console.write(base + 7, 0x77);
            console.write(base + 5, 0x0D);
            CHECK.due("CTRL by " + base, console.picture(4), 0x44);
            CHECK.due("MASK by " + base, console.picture(5), 0x55);
            CHECK.due("OAM by " + base, console.oam(0xFF), 0x66);
            CHECK.due("V by " + base, console.picture(0), 0x2154);
            CHECK.due("the byte at V by " + base, console.memory(0x2134), 0x77);
            CHECK.due("X by " + base, console.picture(2), 5);
            CHECK.due("W by " + base, console.picture(3), 1);
            console.read(base + 2);
            CHECK.due("W read away by " + base, console.picture(3), 0);
            CHECK.due("RAM's first is as before", console.read(0), 0);
            CHECK.due("RAM's last is as before", console.read(0x1FFF), 0);
        }
        GameConsole below = new GameConsole(Rig.MMC1);
        below.write(0x1FFF, 0x80);
        CHECK.due("0x1FFF is no register", below.picture(0), 0);
        below.write(0x4000, 0x80);
        CHECK.due("0x4000 is no register 0", below.picture(4), 0);
    }

    private static void soundPadsAndDma() {
        CHECK.sentence("0x4000 .. 0x4017 SOUND, pads and DMA.");
        GameConsole console = new GameConsole(Rig.MMC3);
        console.write(0x4015, 15);
        console.write(0x4003, 8);
        console.write(0x4007, 8);
        console.write(0x4000, 0x20);
        console.pass(14913);
        CHECK.due("0x4000 is the first", console.sound(0), 254);
        CHECK.due("without it", console.sound(1), 253);
        console.write(0x4017, 0);
        CHECK.due("0x4017 is the last", console.sound(4), 0);
        console.pass(100);
        int[] others = {0x4018, 0x4037, 0x4097, 0x5017, 0x4117};
        for (int address : others) {
            console.write(address, 0);
            CHECK.due(address + " is not 0x4017", console.sound(4), 100);
        }
        int[] noStatus = {0x4018, 0x4035, 0x4055, 0x4115, 0x5015};
        for (int address : noStatus) {
            CHECK.due(address + " is not 0x4015", console.read(address), 0);
            console.write(address, 0);
            CHECK.due(address + " written is not 0x4015", console.sound(0), 254);
        }
        int[] noDma = {0x4034, 0x4114, 0x5014, 0x4013};
        for (int address : noDma) {
            int before = console.core(6);
            console.write(address, 0);
            CHECK.due(address + " is not 0x4014", console.core(6), before);
        }
        int[] noPads = {0x4036, 0x4037, 0x4116, 0x5017};
        for (int address : noPads) {
            CHECK.due(address + " is no pad", console.read(address), 0);
        }
    }

    private static void ownRam() {
        CHECK.sentence("0x6000 .. 0x7FFF the cartridge's own RAM (the lowest 8 bits).");
        for (int kind = 0; kind < 2; kind++) {
            for (int page = 0x6000; page < 0x8000; page += 0x0300) {
                GameConsole console = new GameConsole(kind);
                console.write(page, 0x11);
                console.write(page + 0xFF, 0x22);
                int[] others = {0x6000, 0x6100, 0x7000, 0x7F00};
                for (int other : others) {
                    CHECK.due("the first at " + other, console.read(other), 0x11);
                    CHECK.due("the last at " + other, console.read(other + 0xFF), 0x22);
                    CHECK.due("between at " + other, console.read(other + 0x80), 0);
                }
                CHECK.due("the RAM is another", console.read(0x0000), 0);
                CHECK.due("0x5FFF is another", console.read(0x5FFF), 0);
                CHECK.due("0x8000 is another", console.read(0x8000), 0);
            }
        }
        GameConsole below = new GameConsole(Rig.MMC1);
        below.write(0x5FFF, 0x33);
        below.write(0x5F00, 0x33);
        CHECK.due("0x5FFF writes nothing", below.read(0x7FFF), 0);
        CHECK.due("0x5F00 writes nothing", below.read(0x6000), 0);
    }

    private static void romAndRegisters() {
        CHECK.sentence("From 0x8000 on the cartridge's ROM, and, written, its registers.");
        GameConsole console = new GameConsole(Rig.MMC3);
        console.rom(0, 1);
        console.rom(63, 2);
        console.rom(448, 3);
        console.rom(511, 4);
        CHECK.due("the first", console.read(0x8000), 1);
        CHECK.due("the last of a bank", console.read(0x9FFF), 2);
        CHECK.due("the first of the last bank", console.read(0xE000), 3);
        CHECK.due("the last", console.read(0xFFFF), 4);
        CHECK.due("the first again, 64 on", console.read(0x8040), 1);
        console.write(0x7FFE, 6);
        console.write(0x7FFF, 5);
        CHECK.due("0x7FFF is no register", console.cartridge(4), 0);
        console.write(0x8000, 6);
        console.write(0x8001, 5);
        CHECK.due("0x8000 and 0x8001 are", console.cartridge(0), 5);
        console.write(0xFFFF, 0xFF);
        console.write(0xE000, 0xFF);
        CHECK.due("ROM cannot be written, the last", console.read(0xFFFF), 4);
        CHECK.due("ROM cannot be written, the first of a bank", console.read(0xE000), 3);
        console.write(0x8001, 0);
        CHECK.due("ROM cannot be written, the first", console.read(0x8000), 1);
        GameConsole mmc1 = new GameConsole(Rig.MMC1);
        Rig.shift(mmc1, 0x7FFF, 0b01101);
        CHECK.due("MMC1, 0x7FFF is no register", mmc1.cartridge(12), 0);
        Rig.shift(mmc1, 0x8000, 0b01101);
        CHECK.due("MMC1, 0x8000 is", mmc1.cartridge(12), 1);
        Rig.shift(mmc1, 0xFFFF, 0b00001);
        CHECK.due("MMC1, 0xFFFF is", mmc1.cartridge(0), 2);
    }

    private static void readAsZero() {
        CHECK.sentence("What is not named is read as 0");
        for (int kind = 0; kind < 2; kind++) {
            GameConsole console = Rig.busy(kind);
            int[] full = {0x0000, 0x0001, 0x0003, 0x07FF, 0x6000, 0x60FF};
            for (int address : full) {
                console.write(address, 0xFF);
            }
            int[] registers = {0x2000, 0x2001, 0x2003, 0x2005, 0x2006, 0x3FFD, 0x3FFE};
            int[] before = Look.at(console);
            for (int address : registers) {
                CHECK.due("picture unit, " + address, console.read(address), 0);
            }
            for (int address = 0x4000; address < 0x4015; address++) {
                CHECK.due("sound and DMA, " + address, console.read(address), 0);
            }
            int[] others = {0x4018, 0x4019, 0x401F, 0x4020, 0x40FF, 0x4100, 0x5000, 0x5FFE, 0x5FFF};
            for (int address : others) {
                CHECK.due("not named, " + address, console.read(address), 0);
            }
            CHECK.dueSame("reading it", before, Look.at(console));
        }
    }

    private static void writingDoesNothing() {
        CHECK.sentence("writing it does nothing.");
        int[] addresses = {0x2002, 0x3FFA, 0x4001, 0x4002, 0x4005, 0x4006, 0x4009, 0x400A, 0x400D, 0x400E,
            0x4010, 0x4011, 0x4012, 0x4013, 0x4018, 0x401F, 0x4020, 0x40FF, 0x5000, 0x5FFF};
        for (int kind = 0; kind < 2; kind++) {
            GameConsole console = Rig.busy(kind);
            int[] before = Look.at(console);
            for (int address : addresses) {
                console.write(address, 0xFF);
            }
            CHECK.dueSame("writing it", before, Look.at(console));
            console.pass(300);
            GameConsole other = Rig.busy(kind);
            other.pass(300);
            CHECK.dueSame("writing it, later,", Look.at(other), Look.at(console));
        }
    }

    private static void dmaPages() {
        CHECK.sentence("256 bytes from 256 times that on are read and written to register 4");
        int[] pages = {0x00, 0x01, 0x07, 0x08, 0x1F};
        for (int page : pages) {
            GameConsole console = new GameConsole(Rig.MMC1);
            int from = page * 256 & 0x7FF;
            console.write(from, 0x11);
            console.write(from + 0xFF, 0x22);
            console.write(from + 0x100, 0x33);
            console.write(from - 1 & 0x7FF, 0x44);
            console.write(0x4014, page);
            CHECK.due("the first of page " + page, console.oam(0), 0x11);
            CHECK.due("the last of page " + page, console.oam(255), 0x22);
            CHECK.due("the second of page " + page, console.oam(1), 0);
        }
        GameConsole own = new GameConsole(Rig.MMC1);
        own.write(0x6000, 0x55);
        own.write(0x60FF, 0x56);
        own.write(0x4014, 0x7F);
        CHECK.due("own RAM, first", own.oam(0), 0x55);
        CHECK.due("own RAM, last", own.oam(255), 0x56);
        GameConsole rom = new GameConsole(Rig.MMC1);
        rom.rom(448, 0x65);
        rom.rom(511, 0x66);
        rom.rom(0, 0x67);
        rom.write(0x4014, 0xFF);
        CHECK.due("the last page, first", rom.oam(0), 0x65);
        CHECK.due("the last page, last", rom.oam(255), 0x66);
        rom.write(0x4014, 0x80);
        CHECK.due("ROM's first page", rom.oam(0), 0x67);
        rom.write(0x4014, 0x50);
        CHECK.due("what is not named is 0", rom.oam(0), 0);
        CHECK.due("what is not named is 0 to the end", rom.oam(255), 0);
    }

    private static void dmaInOrder() {
        CHECK.sentence("0x4014 written: .. in order (the OAM address wraps)");
        int[] starts = {0, 1, 128, 255};
        for (int start : starts) {
            GameConsole console = new GameConsole(Rig.MMC1);
            for (int i = 0; i < 200; i++) {
                console.write(0x0300 + i, i + 1);
            }
            console.write(0x2003, start);
            console.write(0x4014, 3);
            for (int i = 0; i < 256; i++) {
                CHECK.due("from " + start + ", " + i, console.oam(start + i & 0xFF), i < 200 ? i + 1 : 0);
            }
            CHECK.due("the OAM address is where it was", console.picture(7), start);
        }
        GameConsole registers = new GameConsole(Rig.MMC1);
        Rig.pictureAddress(registers, 0x2000);
        for (int i = 0; i < 32; i++) {
            registers.write(0x2007, i + 1);
        }
        Rig.pictureAddress(registers, 0x2000);
        registers.write(0x4014, 0x3F);
        for (int i = 0; i < 32; i++) {
            CHECK.due("the readings of register 7, " + i, registers.oam(8 * i + 7), i);
        }
        CHECK.due("the buffer behind them", registers.picture(10), 32);
    }

    private static void dmaCycles() {
        CHECK.sentence("the step takes 513 cycles more, and one more still if .. that had gone by before the step is odd.");
        for (int before = 0; before < 4; before++) {
            GameConsole step = Rig.with(Rig.MMC1, 0x8D, 0x14, 0x40);
            step.pass(before);
            CHECK.due("a step behind " + before, step.step(), 4 + 513 + before % 2);
            CHECK.due("all cycles", step.core(6), before + 517 + before % 2);
            GameConsole odd = Rig.with(Rig.MMC1, 0xA2, 0, 0x9D, 0x14, 0x40);
            odd.step();
            odd.pass(before);
            CHECK.due("a step of five cycles behind " + before, odd.step(), 5 + 513 + before % 2);
            GameConsole write = new GameConsole(Rig.MMC1);
            write.pass(before);
            write.write(0x4014, 0);
            CHECK.due("a write behind " + before, write.core(6), before + 513 + before % 2);
            CHECK.due("its dots", write.picture(8) * 341 + write.picture(9), 3 * (before + 513 + before % 2));
            CHECK.due("the frame's cycles", write.sound(4), before + 513 + before % 2);
        }
        GameConsole far = new GameConsole(Rig.MMC1);
        far.pass(30000);
        far.pass(30000);
        far.pass(5535);
        far.write(0x4014, 0);
        CHECK.due("behind 65535, which is odd", far.core(6), 65535 + 514 - 65536);
    }

    private static void dmaOnlyOnce() {
        CHECK.sentence("0x4014 written: .. (once for each writing)");
        GameConsole console = Rig.with(Rig.MMC1, 0x8D, 0x14, 0x40, 0xEA, 0xEE, 0x14, 0x40, 0xEA);
        int[] due = {517, 2, 6 + 514, 2};
        for (int cycles : due) {
            CHECK.due("cycles", console.step(), cycles);
        }
        int before = console.core(6);
        console.read(0x4014);
        console.write(0x0300, 1);
        CHECK.due("nothing of it is left", console.core(6), before);
    }
}
