/** Promise 2: rom. */
public final class RomTest {
    public static void main(String[] args) {
        Check check = new Check();
        everyPlace(check);
        eightBits(check);
        wrongPlaces(check);
        check.finish();
    }

    private static int filled(int bank, int place) {
        return (bank * 64 + place) * 7 + bank & 0xFF;
    }

    /** One bank is filled, and of the others what lies at the same places as its first and last. */
    private static void everyPlace(Check check) {
        for (int bank = 0; bank < 8; bank++) {
            GameConsole console = new GameConsole(Rig.MMC3);
            for (int place = 0; place < 64; place++) {
                console.rom(bank * 64 + place, filled(bank, place));
            }
            for (int other = 0; other < 8; other++) {
                console.rom(other * 64, filled(other, 0));
                console.rom(other * 64 + 63, filled(other, 63));
            }
            console.write(0x8000, 6);
            console.write(0x8001, bank);
            for (int place = 0; place < 64; place++) {
                int due = filled(bank, place);
                check.due("bank " + bank + " place " + place, console.read(0x8000 + place), due);
                check.due("bank " + bank + " again at " + place, console.read(0x9FC0 + place), due);
            }
            check.due("the last place", console.read(0xFFFF), filled(7, 63));
            check.due("the last bank's first place", console.read(0xE000), filled(7, 0));
            check.due("the last place but one bank", console.read(0xDFFF), filled(6, 63));
        }
    }

    private static void eightBits(Check check) {
        GameConsole console = new GameConsole(Rig.MMC1);
        int[] values = {0x1FF, -1, 256, Integer.MIN_VALUE, Integer.MAX_VALUE, 0x12345678};
        for (int value : values) {
            console.rom(448, value);
            check.due("value " + value, console.read(0xE000), value & 0xFF);
        }
    }

    private static void wrongPlaces(Check check) {
        GameConsole console = new GameConsole(Rig.MMC1);
        int[] wrong = {-1, 512, 513, 1024, -512, Integer.MIN_VALUE, Integer.MAX_VALUE};
        for (int at : wrong) {
            check.dueThrow("rom " + at, IllegalArgumentException.class, () -> console.rom(at, 1));
        }
        for (int slot = 0; slot < 4; slot++) {
            for (int place = 0; place < 64; place++) {
                int address = 0x8000 + 0x2000 * slot + place;
                check.due("nothing was put at " + address, console.read(address), 0);
            }
        }
        console.rom(0, 9);
        console.rom(511, 8);
        check.due("the first", console.read(0x8000), 9);
        check.due("the last", console.read(0xFFFF), 8);
    }
}
