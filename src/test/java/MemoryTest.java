/** Promise 13: memory. */
public final class MemoryTest {
    public static void main(String[] args) {
        Check check = new Check();
        for (int mirroring = 0; mirroring < 4; mirroring++) {
            nameTables(check, mirroring);
        }
        palette(check);
        nothingIsDisturbed(check);
        chrBanks(check);
        check.finish();
    }

    private static int half(int mirroring, int table) {
        int[][] halves = {{0, 0, 0, 0}, {1, 1, 1, 1}, {0, 1, 0, 1}, {0, 0, 1, 1}};
        return halves[mirroring][table];
    }

    /** Both halves are filled while bit 10 tells them apart; then each mirroring shows its own. */
    private static void nameTables(Check check, int mirroring) {
        GameConsole console = new GameConsole(Rig.MMC1);
        Rig.shift(console, 0x8000, 0b01110);
        Rig.pictureAddress(console, 0x2000);
        for (int i = 0; i < 2048; i++) {
            console.write(0x2007, i * 5 + i / 1024 * 3);
        }
        Rig.shift(console, 0x8000, 0b01100 | mirroring);
        for (int address = 0x2000; address < 0x3F00; address++) {
            int i = half(mirroring, address / 1024 % 4) * 1024 + address % 1024;
            String name = "mirroring " + mirroring + ", memory " + address;
            check.due(name, console.memory(address), i * 5 + i / 1024 * 3 & 0xFF);
            check.due(name + " and bits above", console.memory(address | 0xFFFFC000), i * 5 + i / 1024 * 3 & 0xFF);
        }
        Rig.pictureAddress(console, 0x2C07);
        console.write(0x2007, 0xEE);
        for (int table = 0; table < 4; table++) {
            boolean same = half(mirroring, table) == half(mirroring, 3);
            int other = (half(mirroring, table) * 1024 + 7) * 5 + half(mirroring, table) * 3 & 0xFF;
            check.due("mirroring " + mirroring + ", written, table " + table, console.memory(0x2007 + 1024 * table),
                same ? 0xEE : other);
        }
    }

    private static void palette(Check check) {
        GameConsole console = new GameConsole(Rig.MMC1);
        for (int i = 0; i < 32; i++) {
            Rig.pictureAddress(console, 0x3F00 + i);
            console.write(0x2007, 0xC0 + i);
        }
        for (int address = 0x3F00; address < 0x4000; address++) {
            int i = address % 32;
            check.due("palette " + address, console.memory(address), 0xC0 + (i % 4 == 0 ? i % 16 + 16 : i));
        }
        for (int i = 0; i < 16; i += 4) {
            Rig.pictureAddress(console, 0x3F00 + i);
            console.write(0x2007, i);
            check.due("palette " + (16 + i), console.memory(0x3F10 + i), i);
        }
    }

    private static void nothingIsDisturbed(Check check) {
        GameConsole console = new GameConsole(Rig.MMC3);
        Rig.pictureAddress(console, 0x2222);
        console.write(0x2007, 7);
        Rig.pictureAddress(console, 0x2222);
        console.write(0x2005, 1);
        for (int address = 0; address < 0x4000; address += 13) {
            console.memory(address);
        }
        check.due("V", console.picture(0), 0x2222);
        check.due("W", console.picture(3), 1);
        check.due("the buffer", console.picture(10), 0);
        check.due("no time", console.core(6), 0);
        check.due("an address above", console.memory(0x6222), 7);
        check.due("an address below 0", console.memory(0x2222 - 0x4000), 7);
    }

    private static void chrBanks(Check check) {
        GameConsole console = new GameConsole(Rig.MMC3);
        for (int i = 0; i < 128; i++) {
            console.chr(i, i + 100);
        }
        int[] registers = {2, 5, 7, 1, 0, 3};
        for (int i = 0; i < 6; i++) {
            console.write(0x8000, i);
            console.write(0x8001, registers[i]);
        }
        int[] banks = {2, 3, 4, 5, 7, 1, 0, 3};
        for (int address = 0; address < 0x2000; address++) {
            int i = banks[address / 1024] * 16 + address % 16;
            check.due("CHR " + address, console.memory(address), i + 100 & 0xFF);
        }
    }
}
