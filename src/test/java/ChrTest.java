/** Promise 3: chr. */
public final class ChrTest {
    public static void main(String[] args) {
        Check check = new Check();
        GameConsole console = new GameConsole(Rig.MMC1);
        for (int at = 0; at < 128; at++) {
            console.chr(at, 255 - at);
        }
        for (int address = 0; address < 0x2000; address++) {
            int due = 255 - (address / 1024 * 16 + address % 16);
            check.due("memory " + address, console.memory(address), due);
        }
        int[] values = {0x1FF, -1, 256, Integer.MIN_VALUE, Integer.MAX_VALUE, 0x12345678};
        for (int value : values) {
            console.chr(127, value);
            check.due("value " + value, console.memory(0x1FFF), value & 0xFF);
        }
        console.chr(127, 128);
        int[] wrong = {-1, 128, 129, 512, Integer.MIN_VALUE, Integer.MAX_VALUE};
        for (int at : wrong) {
            check.dueThrow("chr " + at, IllegalArgumentException.class, () -> console.chr(at, 77));
        }
        check.due("the first stays", console.memory(0), 255);
        check.due("the last stays", console.memory(0x1C0F), 128);
        check.finish();
    }
}
