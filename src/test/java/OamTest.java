/** Promise 14: oam. */
public final class OamTest {
    public static void main(String[] args) {
        Check check = new Check();
        everyPlace(check, 0);
        everyPlace(check, 128);
        wrongPlaces(check);
        check.finish();
    }

    /** All places are filled, but only half of them are looked at: an object has 512 calls. */
    private static void everyPlace(Check check, int from) {
        GameConsole console = new GameConsole(Rig.MMC1);
        for (int i = 0; i < 256; i++) {
            console.write(0x2004, i * 3);
        }
        console.write(0x2003, 0x40);
        for (int i = from; i < from + 128; i++) {
            check.due("oam " + i, console.oam(i), i * 3 & 0xFF);
        }
        check.due("the address stays", console.picture(7), 0x40);
    }

    private static void wrongPlaces(Check check) {
        GameConsole console = new GameConsole(Rig.MMC1);
        int[] wrong = {-1, 256, 257, 1000, Integer.MIN_VALUE, Integer.MAX_VALUE};
        for (int at : wrong) {
            check.dueThrow("oam " + at, IndexOutOfBoundsException.class, () -> console.oam(at));
        }
    }
}
