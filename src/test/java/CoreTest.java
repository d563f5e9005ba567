/** Promise 11: core. */
public final class CoreTest {
    public static void main(String[] args) {
        Check check = new Check();
        GameConsole console = Rig.with(Rig.MMC3, 0xA9, 0x11, 0xA2, 0x22, 0xA0, 0x33, 0x48, 0x38, 0xF8);
        console.run(6);
        int[] due = {0x11, 0x22, 0x33, 0xFC, 0x2D, 0x0209, 13, 0, 0};
        for (int what = 0; what < due.length; what++) {
            check.due("core " + what, console.core(what), due[what]);
            check.due("core " + what + " again", console.core(what), due[what]);
        }
        lines(check);
        cycles(check);
        int[] wrong = {-1, 9, 10, 100, Integer.MIN_VALUE, Integer.MAX_VALUE};
        for (int what : wrong) {
            check.dueThrow("core " + what, IndexOutOfBoundsException.class, () -> console.core(what));
        }
        check.finish();
    }

    private static void lines(Check check) {
        GameConsole console = new GameConsole(Rig.MMC3);
        console.write(0x2000, 0x80);
        console.pass(29829);
        check.due("NMI", console.core(7), 1);
        check.due("looking takes nothing", console.core(7), 1);
        check.due("the frame's line", console.core(8), 1);
        console.write(0x2001, 8);
        console.write(0xE001, 0);
        console.pass(114);
        check.due("both lines", console.core(8), 3);
        console.read(0x4015);
        check.due("the cartridge's line", console.core(8), 2);
        console.write(0xE000, 0);
        check.due("no line", console.core(8), 0);
    }

    private static void cycles(Check check) {
        GameConsole console = new GameConsole(Rig.MMC1);
        console.pass(30000);
        console.pass(30000);
        console.pass(5535);
        check.due("the last before 65536", console.core(6), 65535);
        console.pass(1);
        check.due("65536 of them", console.core(6), 0);
        console.pass(1);
        console.write(0x4014, 0);
        check.due("odd is told of all cycles", console.core(6), 1 + 514);
    }
}
