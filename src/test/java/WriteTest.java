/** Promise 9: write. */
public final class WriteTest {
    private static final Check CHECK = new Check();

    public static void main(String[] args) {
        lowestBits();
        whatCannotBeWritten();
        control();
        scrollAndAddress();
        data();
        oamAddress();
        dma();
        dmaFromRegisters();
        CHECK.finish();
    }

    private static void lowestBits() {
        GameConsole console = new GameConsole(Rig.MMC1);
        int[] upper = {0x10000, 0x7FFF0000, 0x80000000, 0xFFFF0000};
        for (int more : upper) {
            console.write(more | 0x0123, 0xABC00 + (more >>> 20 & 0xFF));
            CHECK.due("address " + (more | 0x0123), console.read(0x0123), more >>> 20 & 0xFF);
        }
        console.write(0x0800 + 5, -1);
        CHECK.due("value -1", console.read(5), 255);
        console.write(0x2001, 0x1FE);
        CHECK.due("a register's value", console.picture(5), 0xFE);
        console.write(0x7FFF, 0x377);
        CHECK.due("the cartridge's own RAM", console.read(0x60FF), 0x77);
        CHECK.due("no time goes by", console.core(6), 0);
        console.write(0x1FFF, 0x66);
        CHECK.due("the RAM's last address", console.read(0x07FF), 0x66);
        console.write(0x3FFF, 0);
        CHECK.due("the picture unit's last address is register 7", console.picture(0), 1);
    }

    private static void whatCannotBeWritten() {
        GameConsole console = new GameConsole(Rig.MMC3);
        console.rom(0, 5);
        console.write(0x8000, 0);
        CHECK.due("ROM stays", console.read(0x8000), 5);
        console.write(0x2002, 0xFF);
        for (int what = 0; what <= 10; what++) {
            CHECK.due("register 2, picture " + what, console.picture(what), 0);
        }
        for (int from = 0x4018; from < 0x6000; from += 200) {
            notNamedFrom(from);
        }
    }

    private static void notNamedFrom(int from) {
        GameConsole console = new GameConsole(Rig.MMC3);
        for (int address = from; address < from + 200 && address < 0x6000; address++) {
            console.write(address, 0xFF);
        }
        CHECK.due("no cycles from " + from + " on", console.core(6), 0);
        for (int place = 0; place < 256; place++) {
            CHECK.due("own RAM " + place, console.read(0x6000 + place), 0);
        }
    }

    private static void control() {
        for (int value = 0; value < 256; value++) {
            GameConsole console = new GameConsole(Rig.MMC1);
            console.write(0x2006, 0xFF);
            console.write(0x2006, 0xFF);
            CHECK.due("T", console.picture(1), 0x3FFF);
            console.write(0x2000 + 8 * value, value);
            CHECK.due("CTRL", console.picture(4), value);
            CHECK.due("T of CTRL " + value, console.picture(1), 0x33FF | (value & 3) << 10);
            CHECK.due("V stays", console.picture(0), 0x3FFF);
            CHECK.due("no NMI without VBLANK", console.core(7), 0);
        }
        controlAndNmi();
    }

    private static void controlAndNmi() {
        GameConsole console = new GameConsole(Rig.MMC1);
        console.write(0x2000, 0);
        CHECK.due("no NMI without VBLANK", console.core(7), 0);
        console.write(0x2000, 0x80);
        Rig.passTo(console, 241, 1);
        console.reset();
        console.write(0x2000, 0x7F);
        CHECK.due("no NMI without bit 7", console.core(7), 0);
        console.write(0x2000, 0x80);
        CHECK.due("NMI", console.core(7), 1);
        console.step();
        console.write(0x2000, 0x81);
        CHECK.due("bit 7 was 1 before", console.core(7), 0);
        console.write(0x2000, 0x00);
        CHECK.due("bit 7 becomes 0", console.core(7), 0);
        console.write(0x2000, 0x80);
        CHECK.due("NMI again", console.core(7), 1);
        console.write(0x2000, 0x00);
        CHECK.due("it stays pending", console.core(7), 1);
        console.step();
        console.read(0x2002);
        console.write(0x2000, 0x80);
        CHECK.due("VBLANK was read away", console.core(7), 0);
    }

    private static void scrollAndAddress() {
        for (int first = 0; first < 256; first++) {
            for (int second = 0; second < 256; second += 5) {
                GameConsole console = new GameConsole(Rig.MMC1);
                console.write(0x2000, first >> 3);
                int table = (first >> 3 & 3) << 10;
                console.write(0x2005, first);
                CHECK.due("T behind 5", console.picture(1), table | first >> 3);
                CHECK.due("X behind 5", console.picture(2), first & 7);
                CHECK.due("W behind 5", console.picture(3), 1);
                console.write(0x2005, second);
                int scrolled = table | first >> 3 | (second & 7) << 12 | second >> 3 << 5;
                CHECK.due("T behind 5, 5", console.picture(1), scrolled);
                CHECK.due("X behind 5, 5", console.picture(2), first & 7);
                CHECK.due("V behind 5, 5", console.picture(0), 0);
                console.write(0x2006, first);
                CHECK.due("T behind 6", console.picture(1), (first & 0x3F) << 8 | scrolled & 0xFF);
                CHECK.due("V behind 6", console.picture(0), 0);
                console.write(0x2006, second);
                CHECK.due("T behind 6, 6", console.picture(1), (first & 0x3F) << 8 | second);
                CHECK.due("V behind 6, 6", console.picture(0), (first & 0x3F) << 8 | second);
                CHECK.due("W behind 6, 6", console.picture(3), 0);
            }
        }
        GameConsole mixed = new GameConsole(Rig.MMC1);
        mixed.write(0x2005, 0xFF);
        mixed.write(0x2006, 0x00);
        CHECK.due("5, then 6: one W", mixed.picture(0), 0);
        CHECK.due("W", mixed.picture(3), 0);
        mixed.write(0x2006, 0xFF);
        mixed.write(0x2005, 0xFF);
        CHECK.due("6, then 5", mixed.picture(1), 0x7FE0);
        mixed.write(0x2005, 0xFF);
        mixed.write(0x2005, 0xFF);
        CHECK.due("T full", mixed.picture(1), 0x7FFF);
        mixed.write(0x2005, 0x00);
        CHECK.due("the lowest five bits are 0", mixed.picture(1), 0x7FE0);
        CHECK.due("X is 0", mixed.picture(2), 0);
        mixed.write(0x2005, 0x00);
        CHECK.due("the bits of the second are 0", mixed.picture(1), 0x0C00);
        mixed.write(0x2005, 0x00);
        mixed.write(0x2005, 0xFF);
        mixed.write(0x2006, 0x00);
        CHECK.due("bits 8 .. 14 are 0", mixed.picture(1), 0x00E0);
        mixed.write(0x2006, 0x01);
        CHECK.due("the lowest eight bits", mixed.picture(1), 0x0001);
    }

    private static void data() {
        GameConsole console = new GameConsole(Rig.MMC1);
        console.chr(0, 33);
        Rig.pictureAddress(console, 0);
        console.write(0x2007, 44);
        CHECK.due("CHR stays", console.memory(0), 33);
        CHECK.due("V grows", console.picture(0), 1);
        Rig.pictureAddress(console, 0x1FFF);
        console.write(0x2007, 44);
        console.write(0x2007, 45);
        CHECK.due("the last of CHR", console.memory(0x1FFF), 0);
        CHECK.due("no name table's place", console.memory(0x23FF), 0);
        CHECK.due("the first of the name tables", console.memory(0x2000), 45);
        CHECK.due("the buffer stays", console.picture(10), 0);
        console.write(0x2000, 4);
        Rig.pictureAddress(console, 0x23F0);
        console.write(0x2007, 46);
        CHECK.due("V by 32", console.picture(0), 0x2410);
        Rig.pictureAddress(console, 0x3FFF);
        console.write(0x2007, 47);
        CHECK.due("the palette's last", console.memory(0x3F1F), 47);
        CHECK.due("V behind 14 bits", console.picture(0), 0x401F);
        Rig.wideAddress(console, 0x7FFF);
        CHECK.due("V at the end of 15 bits", console.picture(0), 0x7FFF);
        console.write(0x2007, 48);
        CHECK.due("V wraps", console.picture(0), 0x001F);
    }

    private static void oamAddress() {
        GameConsole console = new GameConsole(Rig.MMC1);
        console.write(0x2003, 0xFE);
        for (int i = 1; i <= 4; i++) {
            console.write(0x2004, i);
        }
        CHECK.due("0xFE", console.oam(0xFE), 1);
        CHECK.due("0xFF", console.oam(0xFF), 2);
        CHECK.due("0", console.oam(0), 3);
        CHECK.due("1", console.oam(1), 4);
        CHECK.due("the address", console.picture(7), 2);
    }

    private static void dma() {
        GameConsole console = new GameConsole(Rig.MMC3);
        for (int i = 0; i < 256; i += 2) {
            console.write(0x0300 + i, i + 1);
        }
        console.write(0x2003, 10);
        console.write(0x4014, 0x503);
        CHECK.due("even", console.core(6), 513);
        CHECK.due("the dots go by", console.picture(8) * 341 + console.picture(9), 1539);
        CHECK.due("the frame goes on", console.sound(4), 513);
        for (int i = 0; i < 256; i++) {
            CHECK.due("OAM " + i, console.oam(i + 10 & 0xFF), i % 2 == 0 ? i + 1 : 0);
        }
        CHECK.due("the address comes back", console.picture(7), 10);
        console.write(0x4014, 0x0B);
        CHECK.due("odd", console.core(6), 513 + 514);
        console.write(0x4014, 0x03);
        CHECK.due("odd again", console.core(6), 513 + 514 + 514);
        console.write(0x0300, 1);
        CHECK.due("once", console.core(6), 513 + 514 + 514);
    }

    private static void dmaFromRegisters() {
        GameConsole console = new GameConsole(Rig.MMC3);
        for (int i = 0; i < 64; i++) {
            console.rom(i + 448, i ^ 0x15);
        }
        console.write(0x4014, 0xFF);
        for (int i = 0; i < 256; i++) {
            CHECK.due("ROM in OAM " + i, console.oam(i), i & 63 ^ 0x15);
        }
        Rig.pictureAddress(console, 0x2000);
        console.write(0x4014, 0x20);
        CHECK.due("32 readings of register 7", console.picture(0), 0x2020);
        CHECK.due("register 4 reads what is written there", console.oam(4), 4 ^ 0x15);
        CHECK.due("register 0 is 0", console.oam(0), 0);
        console.pass(29829 - console.sound(4));
        console.pad(0, 2);
        console.write(0x4016, 1);
        console.write(0x4016, 0);
        console.write(0x4014, 0x40);
        CHECK.due("0x4015 was read", console.oam(0x15), 0x40);
        CHECK.due("a pad was read", console.oam(0x16), 0);
        CHECK.due("the other pad was read", console.oam(0x17), 0);
        CHECK.due("the frame's line is 0", console.core(8), 0);
        CHECK.due("the pad's next bit", console.read(0x4016), 1);
    }
}
