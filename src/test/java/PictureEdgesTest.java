/** Edges of the PICTURE UNIT's registers and memory (promises 8, 9 and 12 to 14). */
public final class PictureEdgesTest {
    private static final Check CHECK = new Check();
    private static final int[][] HALVES = {{0, 0, 0, 0}, {1, 1, 1, 1}, {0, 1, 0, 1}, {0, 0, 1, 1}};

    public static void main(String[] args) {
        controlAndT();
        nmiByControl();
        maskIsAByte();
        oamAddressWraps();
        oamIsRead();
        scrollFirst();
        scrollSecond();
        addressFirst();
        addressSecond();
        wChanges();
        statusRead();
        dataAndBuffer();
        dataFromThePaletteOn();
        vGrows();
        vWraps();
        vIsAnAddress();
        chrCannotBeWritten();
        whereTablesBegin();
        paletteNames();
        paletteFiveBits();
        fourTables();
        mirroringChanges();
        CHECK.finish();
    }

    private static void controlAndT() {
        CHECK.sentence("0 CTRL; bits 10 and 11 of T are its lowest two");
        for (int value = 0; value < 256; value += 17) {
            GameConsole full = new GameConsole(Rig.MMC1);
            Rig.wideAddress(full, 0x7FFF);
            full.write(0x2000, value);
            CHECK.due("CTRL " + value, full.picture(4), value);
            CHECK.due("T of ones, CTRL " + value, full.picture(1), 0x73FF | (value & 3) << 10);
            CHECK.due("V stays", full.picture(0), 0x7FFF);
            GameConsole empty = new GameConsole(Rig.MMC1);
            empty.write(0x2000, value);
            CHECK.due("T of zeros, CTRL " + value, empty.picture(1), (value & 3) << 10);
            CHECK.due("W stays", empty.picture(3), 0);
        }
    }

    private static void nmiByControl() {
        CHECK.sentence("if VBLANK is 1 and bit 7 became 1, an NMI is pending.");
        GameConsole console = new GameConsole(Rig.MMC1);
        console.write(0x2000, 0x80);
        CHECK.due("VBLANK is 0", console.core(7), 0);
        console.write(0x2000, 0x00);
        console.pass(27394);
        CHECK.due("VBLANK is 1, bit 7 is 0", console.core(7), 0);
        console.write(0x2000, 0x7F);
        CHECK.due("the other bits became 1", console.core(7), 0);
        console.write(0x2000, 0xFF);
        CHECK.due("bit 7 became 1", console.core(7), 1);
        console.step();
        console.write(0x2000, 0x80);
        CHECK.due("bit 7 was 1 already", console.core(7), 0);
        console.write(0x2000, 0x00);
        CHECK.due("bit 7 became 0", console.core(7), 0);
        console.write(0x2000, 0x80);
        CHECK.due("bit 7 became 1 again", console.core(7), 1);
        console.step();
        console.write(0x2000, 0x00);
        console.read(0x2002);
        console.write(0x2000, 0x80);
        CHECK.due("VBLANK was read", console.core(7), 0);
    }

    private static void maskIsAByte() {
        CHECK.sentence("1 MASK.");
        GameConsole console = new GameConsole(Rig.MMC1);
        int[] values = {0xFF, 0x00, 0x18, 0x80};
        for (int value : values) {
            console.write(0x2001, value);
            CHECK.due("MASK", console.picture(5), value);
        }
    }

    private static void oamAddressWraps() {
        CHECK.sentence("3 the OAM address. 4 the byte there, the address is 1 more.");
        GameConsole console = new GameConsole(Rig.MMC1);
        console.write(0x2003, 0xFE);
        int[] due = {0xFF, 0x00, 0x01};
        for (int i = 0; i < due.length; i++) {
            console.write(0x2004, 0x90 + i);
            CHECK.due("the address behind writing " + i, console.picture(7), due[i]);
        }
        CHECK.due("OAM 0xFE", console.oam(0xFE), 0x90);
        CHECK.due("OAM 0xFF", console.oam(0xFF), 0x91);
        CHECK.due("OAM 0", console.oam(0), 0x92);
        CHECK.due("OAM 1", console.oam(1), 0);
    }

    private static void oamIsRead() {
        CHECK.sentence("Read: .. 4 the byte of OAM at its address.");
        GameConsole console = new GameConsole(Rig.MMC1);
        console.write(0x2003, 0xFF);
        console.write(0x2004, 0xE3);
        console.write(0x2003, 0xFF);
        for (int i = 0; i < 3; i++) {
            CHECK.due("the last one, all its bits", console.read(0x2004), 0xE3);
            CHECK.due("the address stays", console.picture(7), 0xFF);
        }
        console.write(0x2003, 0x00);
        CHECK.due("the first one", console.read(0x2004), 0);
    }

    private static void scrollFirst() {
        CHECK.sentence("5 with W 0: the lowest 5 bits of T are bits 3 .. 7, X bits 0 .. 2");
        int[] values = {0x00, 0xFF, 0x07, 0xF8, 0x08, 0x80, 0x01, 0x04};
        for (int value : values) {
            GameConsole full = new GameConsole(Rig.MMC1);
            Rig.wideAddress(full, 0x7FFF);
            full.write(0x2005, value);
            CHECK.due("T of ones by " + value, full.picture(1), 0x7FE0 | value / 8);
            CHECK.due("X by " + value, full.picture(2), value % 8);
            CHECK.due("V by " + value, full.picture(0), 0x7FFF);
            GameConsole empty = new GameConsole(Rig.MMC1);
            empty.write(0x2005, value);
            CHECK.due("T of zeros by " + value, empty.picture(1), value / 8);
        }
    }

    private static void scrollSecond() {
        CHECK.sentence("with W 1: bits 12 .. 14 of T are bits 0 .. 2, bits 5 .. 9 of T bits 3 .. 7");
        int[] values = {0x00, 0xFF, 0x07, 0xF8, 0x08, 0x80, 0x01, 0x04};
        for (int value : values) {
            int due = value % 8 << 12 | value / 8 << 5;
            GameConsole full = new GameConsole(Rig.MMC1);
            Rig.wideAddress(full, 0x7FFF);
            full.write(0x2005, 0xFF);
            full.write(0x2005, value);
            CHECK.due("T of ones by " + value, full.picture(1), 0x0C1F | due);
            CHECK.due("X stays", full.picture(2), 7);
            CHECK.due("V stays", full.picture(0), 0x7FFF);
            GameConsole empty = new GameConsole(Rig.MMC1);
            empty.write(0x2005, 0);
            empty.write(0x2005, value);
            CHECK.due("T of zeros by " + value, empty.picture(1), due);
        }
    }

    private static void addressFirst() {
        CHECK.sentence("6 with W 0: bits 8 .. 13 of T are the lowest six, bit 14 is 0");
        int[] values = {0x00, 0xFF, 0x3F, 0x40, 0x80, 0xC0, 0x20, 0x01};
        for (int value : values) {
            GameConsole full = new GameConsole(Rig.MMC1);
            Rig.wideAddress(full, 0x7FFF);
            full.write(0x2006, value);
            CHECK.due("T of ones by " + value, full.picture(1), 0x00FF | (value & 0x3F) << 8);
            CHECK.due("V stays", full.picture(0), 0x7FFF);
            GameConsole empty = new GameConsole(Rig.MMC1);
            empty.write(0x2006, value);
            CHECK.due("T of zeros by " + value, empty.picture(1), (value & 0x3F) << 8);
            CHECK.due("V of zeros stays", empty.picture(0), 0);
        }
    }

    private static void addressSecond() {
        CHECK.sentence("with W 1: the lowest 8 bits of T, and V is T");
        int[] values = {0x00, 0xFF, 0x80, 0x7F, 0x01};
        for (int value : values) {
            GameConsole full = new GameConsole(Rig.MMC1);
            Rig.wideAddress(full, 0x7FFF);
            full.write(0x2005, 0xFF);
            full.write(0x2006, value);
            CHECK.due("T of ones by " + value, full.picture(1), 0x7F00 | value);
            CHECK.due("V of ones by " + value, full.picture(0), 0x7F00 | value);
            GameConsole empty = new GameConsole(Rig.MMC1);
            empty.write(0x2006, 0);
            empty.write(0x2006, value);
            CHECK.due("T of zeros by " + value, empty.picture(1), value);
            CHECK.due("V of zeros by " + value, empty.picture(0), value);
        }
    }

    private static void wChanges() {
        CHECK.sentence("W changes");
        int[][] orders = {{5, 5, 5}, {6, 6, 6}, {5, 6, 5}, {6, 5, 6}};
        for (int[] order : orders) {
            GameConsole console = new GameConsole(Rig.MMC1);
            for (int i = 0; i < order.length; i++) {
                console.write(0x2000 + order[i], 0);
                CHECK.due("W behind writing " + i + " to " + order[i], console.picture(3), (i + 1) % 2);
            }
            int[] others = {0, 1, 2, 3, 4, 7};
            for (int register : others) {
                console.write(0x2000 + register, 0);
                CHECK.due("W behind writing " + register, console.picture(3), 1);
            }
            int[] read = {0, 1, 3, 4, 5, 6, 7};
            for (int register : read) {
                console.read(0x2000 + register);
                CHECK.due("W behind reading " + register, console.picture(3), 1);
            }
        }
    }

    private static void statusRead() {
        CHECK.sentence("Read: 2 VBLANK in bit 7, which is 0 then, as W is.");
        GameConsole console = new GameConsole(Rig.MMC1);
        console.write(0x2005, 0xFF);
        CHECK.due("VBLANK 0", console.read(0x2002), 0);
        CHECK.due("W", console.picture(3), 0);
        CHECK.due("W stays 0", console.read(0x2002) + console.picture(3), 0);
        console.pass(27394);
        CHECK.due("VBLANK 1", console.read(0x2002), 0x80);
        CHECK.due("VBLANK is 0 then", console.picture(6), 0);
        CHECK.due("VBLANK again", console.read(0x2002), 0);
        console.pass(30000);
        CHECK.due("it comes with the next picture", console.read(0x2002), 0x80);
        GameConsole full = Rig.busy(Rig.MMC3);
        int[] due = Look.at(full);
        full.read(0x2002);
        due[9 + 3] = 0;
        due[9 + 6] = 0;
        CHECK.dueSame("reading 2, but for VBLANK and W,", due, Look.at(full));
    }

    private static void dataAndBuffer() {
        CHECK.sentence("7 the buffer, which becomes the byte at V");
        GameConsole console = new GameConsole(Rig.MMC1);
        console.chr(127, 0x31);
        Rig.pictureAddress(console, 0x2000);
        console.write(0x2007, 0x32);
        Rig.pictureAddress(console, 0x3EFF);
        console.write(0x2007, 0x33);
        CHECK.due("writing leaves the buffer", console.picture(10), 0);
        Rig.pictureAddress(console, 0x1FFF);
        CHECK.due("the buffer is empty at first", console.read(0x2007), 0);
        CHECK.due("the last of CHR", console.picture(10), 0x31);
        CHECK.due("is given next", console.read(0x2007), 0x31);
        CHECK.due("the first of the tables", console.picture(10), 0x32);
        Rig.pictureAddress(console, 0x3EFF);
        CHECK.due("is given at another V", console.read(0x2007), 0x32);
        CHECK.due("the last below the palette", console.picture(10), 0x33);
    }

    private static void dataFromThePaletteOn() {
        CHECK.sentence("but from 0x3F00 on the byte itself, and the buffer becomes what would lie there if the name "
            + "tables went on.");
        for (int mirroring = 0; mirroring < 4; mirroring++) {
            int[] addresses = {0x3F00, 0x3F01, 0x3F10, 0x3F1F, 0x3F20, 0x3FFF};
            for (int address : addresses) {
                GameConsole console = new GameConsole(Rig.MMC1);
                Rig.shift(console, 0x8000, 0b01110);
                int place = address % 1024;
                Rig.pictureAddress(console, 0x2000 + place);
                console.write(0x2007, 0x41);
                Rig.pictureAddress(console, 0x2400 + place);
                console.write(0x2007, 0x42);
                Rig.pictureAddress(console, address);
                console.write(0x2007, 0xC3);
                Rig.shift(console, 0x8000, 0b01100 | mirroring);
                Rig.pictureAddress(console, address);
                String name = "mirroring " + mirroring + ", " + address;
                CHECK.due(name + ": the byte itself", console.read(0x2007), 0xC3);
                CHECK.due(name + ": the buffer", console.picture(10), 0x41 + HALVES[mirroring][3]);
                CHECK.due(name + ": V", console.picture(0), address + 1);
            }
        }
    }

    private static void vGrows() {
        CHECK.sentence("Behind 7, read or written, V grows by 1, or by 32 if bit 2 of CTRL is 1.");
        int[] controls = {0x00, 0xFB, 0x04, 0xFF};
        int[] starts = {0x0000, 0x1FFF, 0x23FF, 0x2FE0, 0x3EFF, 0x3F1F, 0x3FFF};
        for (int control : controls) {
            for (int start : starts) {
                int due = start + ((control & 4) == 0 ? 1 : 32);
                GameConsole console = new GameConsole(Rig.MMC1);
                console.write(0x2000, control);
                Rig.pictureAddress(console, start);
                console.read(0x2007);
                CHECK.due("read at " + start + ", CTRL " + control, console.picture(0), due);
                Rig.pictureAddress(console, start);
                console.write(0x2007, 0);
                CHECK.due("written at " + start + ", CTRL " + control, console.picture(0), due);
                CHECK.due("T stays", console.picture(1), start);
            }
        }
    }

    private static void vWraps() {
        CHECK.sentence("the 15 bits V (growing beyond them)");
        int[] starts = {0x7FFF, 0x7FFE, 0x7FE0, 0x7FDF, 0x7FF0};
        for (int start : starts) {
            GameConsole one = new GameConsole(Rig.MMC1);
            Rig.wideAddress(one, start);
            CHECK.due("V", one.picture(0), start);
            one.read(0x2007);
            CHECK.due("by 1 from " + start, one.picture(0), start + 1 & 0x7FFF);
            GameConsole more = new GameConsole(Rig.MMC1);
            more.write(0x2000, 4);
            Rig.wideAddress(more, start);
            more.write(0x2007, 0);
            CHECK.due("by 32 from " + start, more.picture(0), start + 32 & 0x7FFF);
        }
    }

    private static void vIsAnAddress() {
        CHECK.sentence("Its MEMORY, of 14 bits (V has one more)");
        GameConsole console = new GameConsole(Rig.MMC1);
        console.chr(0, 0x51);
        Rig.wideAddress(console, 0x4000);
        console.read(0x2007);
        CHECK.due("0x4000 is 0", console.picture(10), 0x51);
        Rig.wideAddress(console, 0x6005);
        console.write(0x2007, 0x52);
        CHECK.due("0x6005 is 0x2005", console.memory(0x2005), 0x52);
        Rig.wideAddress(console, 0x7F05);
        console.write(0x2007, 0x53);
        CHECK.due("0x7F05 is 0x3F05", console.memory(0x3F05), 0x53);
        Rig.wideAddress(console, 0x7F05);
        CHECK.due("and read at once", console.read(0x2007), 0x53);
        Rig.wideAddress(console, 0x4000);
        console.write(0x2007, 0x54);
        CHECK.due("0x4000 cannot be written", console.memory(0), 0x51);
    }

    private static void chrCannotBeWritten() {
        CHECK.sentence("below 0x2000 the cartridge's CHR (which cannot be written)");
        for (int kind = 0; kind < 2; kind++) {
            int[] addresses = {0x0000, 0x000F, 0x0400, 0x1C0F, 0x1FFF};
            for (int address : addresses) {
                GameConsole console = new GameConsole(kind);
                for (int at = 0; at < 128; at++) {
                    console.chr(at, 0x61);
                }
                Rig.pictureAddress(console, address);
                console.write(0x2007, 0x62);
                for (int at = 0; at < 128; at++) {
                    CHECK.due("CHR, written at " + address, console.memory(at / 16 * 1024 + at % 16), 0x61);
                }
                CHECK.due("V grows all the same", console.picture(0), address + 1);
                CHECK.due("no table is written", console.memory(0x2000 | address & 0x3FF), 0);
            }
        }
    }

    private static void whereTablesBegin() {
        CHECK.sentence("below 0x3F00 name tables; then the palette");
        GameConsole console = new GameConsole(Rig.MMC1);
        Rig.shift(console, 0x8000, 0b01110);
        int[] addresses = {0x1FFF, 0x2000, 0x2FFF, 0x3000, 0x3EFF, 0x3F00, 0x3FFF};
        for (int i = 0; i < addresses.length; i++) {
            Rig.pictureAddress(console, addresses[i]);
            console.write(0x2007, 0x71 + i);
        }
        int[] shown = {0x1FFF, 0x2000, 0x2FFF, 0x3000, 0x3EFF, 0x3F00, 0x3FFF, 0x27FF, 0x26FF, 0x2700, 0x3F1F};
        int[] due = {0, 0x74, 0x73, 0x74, 0x75, 0x76, 0x77, 0x73, 0x75, 0, 0x77};
        for (int i = 0; i < shown.length; i++) {
            CHECK.due("memory " + shown[i], console.memory(shown[i]), due[i]);
        }
    }

    private static void paletteNames() {
        CHECK.sentence("16, 20, 24 and 28 are 0, 4, 8 and 12");
        for (int i = 0; i < 32; i++) {
            GameConsole console = new GameConsole(Rig.MMC1);
            Rig.pictureAddress(console, 0x3F00 + i);
            console.write(0x2007, 0x7F);
            for (int j = 0; j < 32; j++) {
                boolean same = i == j || i % 4 == 0 && Math.abs(i - j) == 16;
                CHECK.due("palette " + j + ", written " + i, console.memory(0x3F00 + j), same ? 0x7F : 0);
            }
        }
    }

    private static void paletteFiveBits() {
        CHECK.sentence("the palette (5 bits count)");
        for (int page = 0x3F00; page < 0x4000; page += 32) {
            GameConsole console = new GameConsole(Rig.MMC1);
            Rig.pictureAddress(console, page);
            console.write(0x2007, 0xFF);
            Rig.pictureAddress(console, page + 31);
            console.write(0x2007, 0xFE);
            for (int other = 0x3F00; other < 0x4000; other += 32) {
                CHECK.due("the first at " + other + ", all its bits", console.memory(other), 0xFF);
                CHECK.due("the last at " + other, console.memory(other + 31), 0xFE);
                CHECK.due("the second at " + other, console.memory(other + 1), 0);
            }
        }
    }

    private static void fourTables() {
        CHECK.sentence("MIRRORING, which half (the lowest ten bits count in it) that is: 0 the first for all; 1 the "
            + "second for all; 2 by bit 10; 3 by bit 11.");
        for (int mirroring = 0; mirroring < 4; mirroring++) {
            for (int table = 0; table < 4; table++) {
                GameConsole console = new GameConsole(Rig.MMC1);
                Rig.shift(console, 0x8000, 0b01100 | mirroring);
                Rig.pictureAddress(console, 0x2000 + 1024 * table);
                console.write(0x2007, 0x81);
                Rig.pictureAddress(console, 0x23FF + 1024 * table);
                console.write(0x2007, 0x82);
                for (int other = 0; other < 8; other++) {
                    boolean same = HALVES[mirroring][table] == HALVES[mirroring][other % 4];
                    String name = "mirroring " + mirroring + ", table " + table + ", shown in " + other;
                    CHECK.due(name, console.memory(0x2000 + 1024 * other), same ? 0x81 : 0);
                    CHECK.due(name + ", second", console.memory(0x2001 + 1024 * other), 0);
                    if (other < 7) {
                        CHECK.due(name + ", last", console.memory(0x23FF + 1024 * other), same ? 0x82 : 0);
                    }
                }
            }
        }
    }

    private static void mirroringChanges() {
        CHECK.sentence("MIRRORING says which half (and the bytes stay in theirs)");
        GameConsole console = new GameConsole(Rig.MMC1);
        for (int half = 0; half < 2; half++) {
            Rig.shift(console, 0x8000, 0b01100 | half);
            Rig.pictureAddress(console, 0x2155);
            console.write(0x2007, 0x91 + half);
        }
        for (int mirroring = 3; mirroring >= 0; mirroring--) {
            Rig.shift(console, 0x8000, 0b01100 | mirroring);
            for (int table = 0; table < 4; table++) {
                CHECK.due("mirroring " + mirroring + ", table " + table, console.memory(0x2155 + 1024 * table),
                    0x91 + HALVES[mirroring][table]);
            }
        }
        GameConsole mmc3 = new GameConsole(Rig.MMC3);
        Rig.pictureAddress(mmc3, 0x2400);
        mmc3.write(0x2007, 0x95);
        CHECK.due("MMC3 at first by bit 10", mmc3.memory(0x2C00), 0x95);
        mmc3.write(0xA000, 1);
        CHECK.due("then by bit 11", mmc3.memory(0x2400), 0);
        CHECK.due("then by bit 11, the second half", mmc3.memory(0x2800), 0x95);
    }
}
