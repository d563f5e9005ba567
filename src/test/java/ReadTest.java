/** Promise 8: read. */
public final class ReadTest {
    private static final Check CHECK = new Check();

    public static void main(String[] args) {
        ram();
        cartridge();
        notNamed();
        sixteenBits();
        status();
        oamData();
        data();
        paletteData();
        growing();
        soundStatus();
        noTime();
        CHECK.finish();
    }

    private static void ram() {
        for (int from = 0; from < 2048; from += 64) {
            GameConsole console = new GameConsole(Rig.MMC1);
            for (int i = from; i < from + 64; i++) {
                console.write(i, i * 3 + i / 256);
            }
            for (int i = from; i < from + 64; i++) {
                for (int address = i; address < 0x2000; address += 2048) {
                    CHECK.due("RAM " + address, console.read(address), i * 3 + i / 256 & 0xFF);
                }
            }
        }
    }

    private static void cartridge() {
        for (int from = 0; from < 256; from += 8) {
            GameConsole console = new GameConsole(Rig.MMC1);
            for (int i = from; i < from + 8; i++) {
                console.write(0x6000 + i, i ^ 0x5A);
            }
            for (int i = from; i < from + 8; i++) {
                for (int address = 0x6000 + i; address < 0x8000; address += 256) {
                    CHECK.due("own RAM " + address, console.read(address), i ^ 0x5A);
                }
            }
        }
        for (int place = 0; place < 64; place++) {
            for (int slot = 0; slot < 4; slot++) {
                romAgainAndAgain(place, slot);
            }
        }
    }

    private static void romAgainAndAgain(int place, int slot) {
        int[] banks = {0, 1, 6, 7};
        GameConsole console = new GameConsole(Rig.MMC1);
        for (int bank = 0; bank < 8; bank++) {
            console.rom(bank * 64 + place, bank * 16 + 1);
        }
        int from = 0x8000 + slot * 0x2000;
        for (int address = from + place; address < from + 0x2000; address += 64) {
            CHECK.due("ROM " + address, console.read(address), banks[slot] * 16 + 1);
        }
    }

    private static void notNamed() {
        GameConsole console = new GameConsole(Rig.MMC3);
        int[] all = {0x0000, 0x07FF, 0x2000, 0x2001, 0x2003, 0x2004, 0x2005, 0x2006, 0x2007, 0x6000, 0x60FF};
        for (int address : all) {
            console.write(address, 0xFF);
        }
        int[] registers = {0, 1, 3, 5, 6};
        for (int page = 0x2000; page < 0x4000; page += 8 * 13) {
            for (int register : registers) {
                CHECK.due("register " + (page + register), console.read(page + register), 0);
            }
        }
        for (int address = 0x4000; address < 0x4018; address++) {
            if (address != 0x4014) {
                console.write(address, 0xFF);
            }
            if (address < 0x4015) {
                CHECK.due("not named " + address, console.read(address), 0);
            }
        }
        for (int from = 0x4018; from < 0x6000; from += 200) {
            notNamedFrom(from);
        }
    }

    private static void notNamedFrom(int from) {
        GameConsole console = new GameConsole(Rig.MMC3);
        for (int address = from; address < from + 200 && address < 0x6000; address++) {
            console.write(address, 0xFF);
            CHECK.due("not named " + address, console.read(address), 0);
        }
    }

    private static void sixteenBits() {
        GameConsole console = new GameConsole(Rig.MMC1);
        console.write(0x0123, 45);
        int[] upper = {0x10000, 0x7FFF0000, 0x80000000, 0xFFFF0000};
        for (int more : upper) {
            CHECK.due("address " + (more | 0x0123), console.read(more | 0x0123), 45);
        }
        console.rom(511, 46);
        CHECK.due("address -1", console.read(-1), 46);
    }

    private static void status() {
        for (int register = 0x2002; register < 0x4000; register += 8 * 37) {
            GameConsole console = new GameConsole(Rig.MMC1);
            Rig.passTo(console, 241, 1);
            console.write(0x2000, 0x80);
            console.write(0x2005, 0xFF);
            CHECK.due("VBLANK in bit 7", console.read(register), 0x80);
            CHECK.due("it is 0 then", console.picture(6), 0);
            CHECK.due("W is 0 then", console.picture(3), 0);
            CHECK.due("the NMI stays pending", console.core(7), 1);
            CHECK.due("again", console.read(register), 0);
            CHECK.due("W is not turned", console.picture(3), 0);
        }
    }

    private static void oamData() {
        GameConsole console = new GameConsole(Rig.MMC1);
        console.write(0x2003, 0x70);
        console.write(0x2004, 11);
        console.write(0x2004, 12);
        console.write(0x2003, 0x70);
        CHECK.due("OAM", console.read(0x2004), 11);
        CHECK.due("its address stays", console.read(0x3FFC), 11);
        CHECK.due("its address", console.picture(7), 0x70);
        console.write(0x2003, 0x71);
        CHECK.due("the next", console.read(0x2004), 12);
    }

    private static void data() {
        GameConsole console = new GameConsole(Rig.MMC3);
        console.chr(0x0F, 91);
        Rig.pictureAddress(console, 0x2C05);
        console.write(0x2007, 71);
        console.write(0x2007, 72);
        Rig.pictureAddress(console, 0x2C05);
        CHECK.due("the old buffer", console.read(0x2007), 0);
        CHECK.due("the buffer", console.picture(10), 71);
        CHECK.due("the first byte", console.read(0x3FFF), 71);
        CHECK.due("the buffer then", console.picture(10), 72);
        CHECK.due("V", console.picture(0), 0x2C07);
        Rig.pictureAddress(console, 0x000F);
        CHECK.due("the byte before", console.read(0x2007), 72);
        CHECK.due("CHR in the buffer", console.picture(10), 91);
        Rig.pictureAddress(console, 0x3EFF);
        CHECK.due("below the palette the buffer is given", console.read(0x2007), 91);
    }

    private static void paletteData() {
        GameConsole console = new GameConsole(Rig.MMC3);
        Rig.pictureAddress(console, 0x3F05);
        console.write(0x2007, 0xC5);
        Rig.pictureAddress(console, 0x2F05);
        console.write(0x2007, 81);
        Rig.pictureAddress(console, 0x3F05);
        CHECK.due("the palette's byte itself, all its bits", console.read(0x2007), 0xC5);
        CHECK.due("the name table below it in the buffer", console.picture(10), 81);
        CHECK.due("V", console.picture(0), 0x3F06);
        Rig.pictureAddress(console, 0x3F00);
        console.write(0x2007, 0x44);
        Rig.pictureAddress(console, 0x3F00);
        CHECK.due("the palette's first", console.read(0x2007), 0x44);
        CHECK.due("the name table below its first", console.picture(10), 0);
        Rig.pictureAddress(console, 0x3FE5);
        CHECK.due("the palette again", console.read(0x2007), 0xC5);
        CHECK.due("another place of the table", console.picture(10), 0);
        Rig.pictureAddress(console, 0x2FE5);
        console.write(0x2007, 82);
        Rig.pictureAddress(console, 0x3FE5);
        console.read(0x2007);
        CHECK.due("that place of the table", console.picture(10), 82);
    }

    private static void growing() {
        GameConsole console = new GameConsole(Rig.MMC3);
        console.write(0x2000, 4);
        Rig.pictureAddress(console, 0x2000);
        console.read(0x2007);
        CHECK.due("V by 32", console.picture(0), 0x2020);
        console.write(0x2000, 0xFB);
        console.read(0x2007);
        CHECK.due("V by 1", console.picture(0), 0x2021);
        Rig.pictureAddress(console, 0x3FFF);
        console.read(0x2007);
        CHECK.due("V goes on behind 14 bits", console.picture(0), 0x4000);
        Rig.pictureAddress(console, 0x2345);
        console.write(0x2007, 61);
        Rig.wideAddress(console, 0x6345);
        console.read(0x2007);
        CHECK.due("only 14 bits are an address", console.picture(10), 61);
        CHECK.due("V keeps its bit 14", console.picture(0), 0x6346);
        Rig.wideAddress(console, 0x7FFF);
        console.read(0x2007);
        CHECK.due("V wraps behind 15 bits", console.picture(0), 0);
    }

    private static void soundStatus() {
        for (int lengths = 0; lengths < 16; lengths++) {
            GameConsole console = new GameConsole(Rig.MMC3);
            console.write(0x4015, 15);
            for (int channel = 0; channel < 4; channel++) {
                if ((lengths >> channel & 1) == 1) {
                    console.write(0x4003 + 4 * channel, 8);
                }
            }
            CHECK.due("lengths " + lengths, console.read(0x4015), lengths);
            console.pass(29829);
            CHECK.due("lengths and line " + lengths, console.read(0x4015), lengths | 0x40);
            CHECK.due("the line is 0 then", console.core(8), 0);
            CHECK.due("lengths again " + lengths, console.read(0x4015), lengths);
        }
        GameConsole run = new GameConsole(Rig.MMC3);
        run.write(0x4015, 1);
        run.write(0x4003, 0x18);
        run.pass(14913);
        CHECK.due("length 1", run.read(0x4015), 1);
        run.pass(14916);
        CHECK.due("length 0", run.read(0x4015), 0x40);
    }

    private static void noTime() {
        GameConsole console = new GameConsole(Rig.MMC3);
        for (int address = 0; address < 0x10000; address += 0x81) {
            console.read(address);
        }
        CHECK.due("no cycle", console.core(6), 0);
        CHECK.due("no dot", console.picture(9), 0);
    }
}
