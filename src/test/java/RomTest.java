/** Promise 2: rom. */
public final class RomTest {
    public static void main(String[] args) {
        Check check = new Check();
        everyPlace(check);
        eightBits(check);
        wrongPlaces(check);
        check.finish();
    }

    private static void everyPlace(Check check) {
        GameConsole console = new GameConsole(Rig.MMC3);
        for (int at = 0; at < 512; at++) {
            console.rom(at, at * 7 + at / 64);
        }
        for (int bank = 0; bank < 8; bank++) {
            console.write(0x8000, 6);
            console.write(0x8001, bank);
            for (int place = 0; place < 64; place++) {
                int due = (bank * 64 + place) * 7 + bank & 0xFF;
                check.due("bank " + bank + " place " + place, console.read(0x8000 + place), due);
                check.due("bank " + bank + " again at " + place, console.read(0x9FC0 + place), due);
            }
        }
        for (int place = 0; place < 64; place++) {
            check.due("the last place " + place, console.read(0xFFC0 + place), (448 + place) * 7 + 7 & 0xFF);
            check.due("the bank before it " + place, console.read(0xC040 + place), (384 + place) * 7 + 6 & 0xFF);
        }
    }

    private static void eightBits(Check check) {
        GameConsole console = new GameConsole(Rig.MMC1);
        int[] values = {0x1FF, -1, 256, Integer.MIN_VALUE, Integer.MAX_VALUE, 0x12345678};
        for (int value : values) {
            console.rom(448, value);
            check.due("value " + value, console.read(0xE000), value & 0xFF);
        }
    }

    private static void wrongPlaces(Check check) {
        GameConsole console = new GameConsole(Rig.MMC1);
        int[] wrong = {-1, 512, 513, 1024, -512, Integer.MIN_VALUE, Integer.MAX_VALUE};
        for (int at : wrong) {
            check.dueThrow("rom " + at, IllegalArgumentException.class, () -> console.rom(at, 1));
        }
        for (int address = 0x8000; address < 0x10000; address++) {
            check.due("nothing was put at " + address, console.read(address), 0);
        }
        console.rom(0, 9);
        console.rom(511, 8);
        check.due("the first", console.read(0x8000), 9);
        check.due("the last", console.read(0xFFFF), 8);
    }
}
