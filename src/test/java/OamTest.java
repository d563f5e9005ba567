/** Promise 14: oam. */
public final class OamTest {
    public static void main(String[] args) {
        Check check = new Check();
        GameConsole console = new GameConsole(Rig.MMC1);
        console.write(0x2003, 0);
        for (int i = 0; i < 256; i++) {
            console.write(0x2004, i * 3);
        }
        console.write(0x2003, 0x40);
        for (int i = 0; i < 256; i++) {
            check.due("oam " + i, console.oam(i), i * 3 & 0xFF);
        }
        check.due("the address stays", console.picture(7), 0x40);
        int[] wrong = {-1, 256, 257, 1000, Integer.MIN_VALUE, Integer.MAX_VALUE};
        for (int at : wrong) {
            check.dueThrow("oam " + at, IndexOutOfBoundsException.class, () -> console.oam(at));
        }
        check.finish();
    }
}
