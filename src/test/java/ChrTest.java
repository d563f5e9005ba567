/** Promise 3: chr. */
public final class ChrTest {
    public static void main(String[] args) {
        Check check = new Check();
        for (int from = 0; from < 0x2000; from += 256) {
            everyPlace(check, from);
        }
        eightBits(check);
        wrongPlaces(check);
        check.finish();
    }

    private static GameConsole filled() {
        GameConsole console = new GameConsole(Rig.MMC1);
        for (int at = 0; at < 128; at++) {
            console.chr(at, 255 - at);
        }
        return console;
    }

    private static void everyPlace(Check check, int from) {
        GameConsole console = filled();
        for (int address = from; address < from + 256; address++) {
            int due = 255 - (address / 1024 * 16 + address % 16);
            check.due("memory " + address, console.memory(address), due);
        }
    }

    private static void eightBits(Check check) {
        GameConsole console = new GameConsole(Rig.MMC1);
        int[] values = {0x1FF, -1, 256, Integer.MIN_VALUE, Integer.MAX_VALUE, 0x12345678};
        for (int value : values) {
            console.chr(127, value);
            check.due("value " + value, console.memory(0x1FFF), value & 0xFF);
        }
    }

    private static void wrongPlaces(Check check) {
        GameConsole console = filled();
        int[] wrong = {-1, 128, 129, 512, Integer.MIN_VALUE, Integer.MAX_VALUE};
        for (int at : wrong) {
            check.dueThrow("chr " + at, IllegalArgumentException.class, () -> console.chr(at, 77));
        }
        for (int at = 0; at < 128; at++) {
            check.due("it stays: " + at, console.memory(at / 16 * 1024 + at % 16), 255 - at);
        }
    }
}
