/** Promise 13: memory. */
public final class MemoryTest {
    /** So many of a half at a time, that an object gets no more than its 512 calls. */
    private static final int PLACES = 16;

    public static void main(String[] args) {
        Check check = new Check();
        for (int mirroring = 0; mirroring < 4; mirroring++) {
            nameTables(check, mirroring);
        }
        palette(check);
        nothingIsDisturbed(check);
        chrBanks(check);
        check.finish();
    }

    private static int half(int mirroring, int table) {
        int[][] halves = {{0, 0, 0, 0}, {1, 1, 1, 1}, {0, 1, 0, 1}, {0, 0, 1, 1}};
        return halves[mirroring][table];
    }

    /** Both halves are filled while bit 10 tells them apart; then each mirroring shows its own. */
    private static void nameTables(Check check, int mirroring) {
        for (int from = 0; from < 1024; from += PLACES) {
            GameConsole console = new GameConsole(Rig.MMC1);
            Rig.shift(console, 0x8000, 0b01110);
            fillHalf(console, 0, from);
            fillHalf(console, 1, from);
            Rig.shift(console, 0x8000, 0b01100 | mirroring);
            for (int address = 0x2000 + from; address < 0x3F00; address += 1024) {
                int half = half(mirroring, address / 1024 % 4);
                shown(check, console, "mirroring " + mirroring + ", memory ", address, half);
            }
        }
        written(check, mirroring);
    }

    private static int filled(int half, int place) {
        return place * 5 + place / 256 + half * 131 & 0xFF;
    }

    private static void fillHalf(GameConsole console, int half, int from) {
        Rig.pictureAddress(console, 0x2000 + half * 1024 + from);
        for (int place = from; place < from + PLACES; place++) {
            console.write(0x2007, filled(half, place));
        }
    }

    private static void shown(Check check, GameConsole console, String name, int from, int half) {
        for (int address = from; address < from + PLACES && address < 0x3F00; address++) {
            int due = filled(half, address % 1024);
            check.due(name + address, console.memory(address), due);
            check.due(name + address + " and bits above", console.memory(address | 0xFFFFC000), due);
        }
    }

    private static void written(Check check, int mirroring) {
        GameConsole console = new GameConsole(Rig.MMC1);
        Rig.shift(console, 0x8000, 0b01110);
        fillHalf(console, 0, 0);
        fillHalf(console, 1, 0);
        Rig.shift(console, 0x8000, 0b01100 | mirroring);
        Rig.pictureAddress(console, 0x2C07);
        console.write(0x2007, 0xEE);
        for (int table = 0; table < 4; table++) {
            int half = half(mirroring, table);
            int due = half == half(mirroring, 3) ? 0xEE : filled(half, 7);
            check.due("mirroring " + mirroring + ", written, table " + table, console.memory(0x2007 + 1024 * table), due);
        }
    }

    private static void palette(Check check) {
        GameConsole console = new GameConsole(Rig.MMC1);
        for (int i = 0; i < 32; i++) {
            Rig.pictureAddress(console, 0x3F00 + i);
            console.write(0x2007, 0xC0 + i);
        }
        for (int address = 0x3F00; address < 0x4000; address++) {
            int i = address % 32;
            check.due("palette " + address, console.memory(address), 0xC0 + (i % 4 == 0 ? i % 16 + 16 : i));
        }
        for (int i = 0; i < 16; i += 4) {
            Rig.pictureAddress(console, 0x3F00 + i);
            console.write(0x2007, i);
            check.due("palette " + (16 + i), console.memory(0x3F10 + i), i);
        }
    }

    private static void nothingIsDisturbed(Check check) {
        GameConsole console = new GameConsole(Rig.MMC3);
        Rig.pictureAddress(console, 0x2222);
        console.write(0x2007, 7);
        Rig.pictureAddress(console, 0x2222);
        console.write(0x2005, 1);
        for (int address = 0; address < 0x4000; address += 41) {
            console.memory(address);
        }
        check.due("V", console.picture(0), 0x2222);
        check.due("W", console.picture(3), 1);
        check.due("the buffer", console.picture(10), 0);
        check.due("no time", console.core(6), 0);
        check.due("an address above", console.memory(0x6222), 7);
        check.due("an address below 0", console.memory(0x2222 - 0x4000), 7);
    }

    private static void chrBanks(Check check) {
        GameConsole console = new GameConsole(Rig.MMC3);
        for (int bank = 0; bank < 8; bank++) {
            console.chr(bank * 16, bank + 100);
            console.chr(bank * 16 + 15, bank + 200);
        }
        int[] registers = {2, 5, 7, 1, 0, 3};
        for (int i = 0; i < 6; i++) {
            console.write(0x8000, i);
            console.write(0x8001, registers[i]);
        }
        int[] banks = {2, 3, 4, 5, 7, 1, 0, 3};
        for (int slot = 0; slot < 8; slot++) {
            int from = slot * 1024;
            check.due("CHR " + from, console.memory(from), banks[slot] + 100);
            check.due("CHR " + (from + 15), console.memory(from + 15), banks[slot] + 200);
            check.due("CHR " + (from + 1008), console.memory(from + 1008), banks[slot] + 100);
            check.due("CHR " + (from + 1023), console.memory(from + 1023), banks[slot] + 200);
        }
    }
}
