/** Promise 15: cartridge. */
public final class CartridgeTest {
    private static final Check CHECK = new Check();

    public static void main(String[] args) {
        mmc1Shifting();
        mmc1Rom();
        mmc1Chr();
        mmc3Rom();
        mmc3Chr();
        mmc3Mirroring();
        mmc3Counter();
        mmc3Lines();
        wrongNumbers();
        CHECK.finish();
    }

    private static void banks(String name, GameConsole console, int from, int... due) {
        for (int i = 0; i < due.length; i++) {
            CHECK.due(name + ": cartridge " + (from + i), console.cartridge(from + i), due[i]);
        }
    }

    private static void mmc1Shifting() {
        GameConsole console = new GameConsole(Rig.MMC1);
        int[] bits = {0x7E, 0x01, 0x00, 0x7F, 0x40};
        for (int i = 0; i < 4; i++) {
            console.write(0x8000, bits[i]);
            CHECK.due("nothing yet " + i, console.cartridge(12), 0);
        }
        console.write(0x8000, bits[4]);
        CHECK.due("bits 0, 1, 0, 1, 0", console.cartridge(12), 2);
        banks("PRG mode 2", console, 0, 0, 1, 0, 1);
        for (int i = 0; i < 4; i++) {
            console.write(0xE000, 1);
        }
        console.write(0x8000, 0x80);
        banks("bit 7: PRG mode 3", console, 0, 0, 1, 6, 7);
        CHECK.due("the mirroring stays", console.cartridge(12), 2);
        console.write(0xE000, 1);
        banks("what was shifted in is gone", console, 0, 0, 1, 6, 7);
        for (int i = 0; i < 3; i++) {
            console.write(0x8000, 0);
        }
        console.write(0xFFFF, 0);
        banks("the fifth address says the register", console, 0, 2, 3, 6, 7);
        CHECK.due("the mirroring stays", console.cartridge(12), 2);
        GameConsole last = new GameConsole(Rig.MMC1);
        for (int i = 0; i < 4; i++) {
            last.write(0xE000, 1);
        }
        last.write(0x9FFF, 0);
        CHECK.due("control by the fifth", last.cartridge(12), 3);
        for (int i = 0; i < 5; i++) {
            last.write(0x7FFF, 0);
        }
        CHECK.due("below 0x8000 nothing is shifted", last.cartridge(12), 3);
    }

    private static void mmc1Rom() {
        for (int mode = 0; mode < 4; mode++) {
            for (int bank = 0; bank < 32; bank++) {
                GameConsole console = new GameConsole(Rig.MMC1);
                Rig.shift(console, 0x8000, mode << 2);
                Rig.shift(console, 0xE000, bank);
                int four = 4 * (bank / 2 % 2);
                int two = 2 * (bank % 4);
                String name = "mode " + mode + ", bank " + bank;
                if (mode < 2) {
                    banks(name, console, 0, four, four + 1, four + 2, four + 3);
                } else if (mode == 2) {
                    banks(name, console, 0, 0, 1, two, two + 1);
                } else {
                    banks(name, console, 0, two, two + 1, 6, 7);
                }
                banks(name, console, 4, 0, 1, 2, 3, 4, 5, 6, 7, 0, 0);
                for (int slot = 0; slot < 4; slot++) {
                    console.rom(console.cartridge(slot) * 64 + 5, 77);
                    CHECK.due(name + ": read", console.read(0x8005 + 0x2000 * slot), 77);
                }
            }
        }
    }

    private static void mmc1Chr() {
        for (int first = 0; first < 32; first++) {
            for (int second = 0; second < 32; second++) {
                GameConsole console = new GameConsole(Rig.MMC1);
                Rig.shift(console, 0xA000, first);
                Rig.shift(console, 0xC000, second);
                banks("CHR mode 0", console, 4, 0, 1, 2, 3, 4, 5, 6, 7);
                Rig.shift(console, 0x8000, 0b11101);
                int low = 4 * (first % 2);
                int high = 4 * (second % 2);
                banks("CHR mode 1, " + first + ", " + second, console, 4,
                    low, low + 1, low + 2, low + 3, high, high + 1, high + 2, high + 3, 1, 0);
                banks("ROM by CHR", console, 0, 0, 1, 6, 7);
            }
        }
    }

    private static GameConsole mmc3With(int select, int... registers) {
        GameConsole console = new GameConsole(Rig.MMC3);
        for (int i = 0; i < registers.length; i++) {
            console.write(0x8000 + 2 * i, 0x38 | i);
            console.write(0x9FFF - 2 * i, registers[i]);
        }
        console.write(0x8000, select);
        return console;
    }

    private static void mmc3Rom() {
        for (int r6 = 0; r6 < 16; r6++) {
            for (int r7 = 240; r7 < 256; r7++) {
                String name = "R6 " + r6 + ", R7 " + r7;
                banks(name, mmc3With(0xBF, 0, 0, 0, 0, 0, 0, r6, r7), 0, r6 % 8, r7 % 8, 6, 7);
                banks(name + " swapped", mmc3With(0x40, 0, 0, 0, 0, 0, 0, r6, r7), 0, 6, r7 % 8, r6 % 8, 7);
            }
        }
        GameConsole console = mmc3With(0x40, 0, 0, 0, 0, 0, 0, 5, 4);
        for (int bank = 0; bank < 8; bank++) {
            console.rom(bank * 64 + 63, bank + 50);
        }
        int[] due = {56, 54, 55, 57};
        for (int slot = 0; slot < 4; slot++) {
            CHECK.due("read of slot " + slot, console.read(0x9FFF + 0x2000 * slot), due[slot]);
        }
    }

    private static void mmc3Chr() {
        for (int i = 0; i < 256; i++) {
            int[] r = {i, i * 3 & 255, i * 5 & 255, i * 7 & 255, i * 11 & 255, i * 13 + 1 & 255};
            int r0 = r[0] % 8 / 2 * 2;
            int r1 = r[1] % 8 / 2 * 2;
            banks("CHR " + i, mmc3With(0x7F, r), 4,
                r0, r0 + 1, r1, r1 + 1, r[2] % 8, r[3] % 8, r[4] % 8, r[5] % 8);
            banks("CHR turned " + i, mmc3With(0x80, r), 4,
                r[2] % 8, r[3] % 8, r[4] % 8, r[5] % 8, r0, r0 + 1, r1, r1 + 1);
        }
    }

    private static void mmc3Mirroring() {
        for (int value = 0; value < 256; value++) {
            GameConsole console = new GameConsole(Rig.MMC3);
            console.write(0xA000, value + 1);
            console.write(0xA000 + 2 * value, value);
            CHECK.due("mirroring by " + value, console.cartridge(12), 2 + value % 2);
            console.write(0xA001 + 2 * value, value + 1);
            CHECK.due("an odd address says nothing", console.cartridge(12), 2 + value % 2);
        }
    }

    private static void nextLine(GameConsole console) {
        console.pass(114);
    }

    private static void mmc3Counter() {
        GameConsole console = new GameConsole(Rig.MMC3);
        console.write(0x2001, 0x08);
        console.write(0xDFFE, 2);
        CHECK.due("the latch is not yet the counter", console.cartridge(13), 0);
        int[] due = {2, 1, 0, 2, 1, 0};
        for (int counter : due) {
            nextLine(console);
            CHECK.due("counter", console.cartridge(13), counter);
            CHECK.due("interrupts are off", console.core(8), 0);
        }
        console.write(0xFFFF, 0);
        CHECK.due("on, but no line was told", console.core(8), 0);
        int[] lines = {0, 0, 2, 2};
        for (int line : lines) {
            nextLine(console);
            CHECK.due("IRQ line", console.core(8), line);
        }
        console.write(0xE001, 0);
        CHECK.due("on again takes nothing away", console.core(8), 2);
        console.write(0xFFFE, 0);
        CHECK.due("off", console.core(8), 0);
        CHECK.due("the counter goes on", console.cartridge(13), 2);
        console.write(0xC000, 9);
        nextLine(console);
        CHECK.due("the new latch waits", console.cartridge(13), 1);
        console.write(0xC001, 77);
        CHECK.due("the counter is 0", console.cartridge(13), 0);
        nextLine(console);
        CHECK.due("and becomes the latch", console.cartridge(13), 9);
    }

    private static void mmc3Lines() {
        GameConsole console = new GameConsole(Rig.MMC3);
        console.write(0xE001, 0);
        nextLine(console);
        CHECK.due("not told without MASK", console.core(8), 0);
        console.write(0x2001, 0x10);
        nextLine(console);
        CHECK.due("latch 0: at each line", console.core(8), 2);
        console.write(0xC001, 0);
        CHECK.due("0xC001 leaves the line", console.core(8), 2);
        console.reset();
        CHECK.due("reset leaves the line", console.core(8), 2);
        console.write(0x2001, 0x10);
        console.write(0xE000, 0);
        nextLine(console);
        CHECK.due("told, but interrupts are off", console.core(8), 0);
        console.write(0xE001, 0);
        CHECK.due("on at the next line only", console.core(8), 0);
        nextLine(console);
        CHECK.due("told, and interrupts are on", console.core(8), 2);
        GameConsole mmc1 = new GameConsole(Rig.MMC1);
        mmc1.write(0x2001, 0x18);
        mmc1.pass(30000);
        CHECK.due("MMC1 counts no lines", mmc1.cartridge(13), 0);
        CHECK.due("MMC1 has no line", mmc1.core(8) & 2, 0);
    }

    private static void wrongNumbers() {
        int[] wrong = {-1, 14, 15, 100, Integer.MIN_VALUE, Integer.MAX_VALUE};
        for (int kind = 0; kind < 2; kind++) {
            GameConsole console = new GameConsole(kind);
            for (int what : wrong) {
                CHECK.dueThrow("cartridge " + what, IndexOutOfBoundsException.class, () -> console.cartridge(what));
            }
        }
    }
}
