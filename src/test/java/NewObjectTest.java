/** Promise 1: a new object. */
public final class NewObjectTest {
    private static final int[] KINDS = {0, 1, 2, 3, -1, -2, Integer.MAX_VALUE, Integer.MIN_VALUE};

    public static void main(String[] args) {
        Check check = new Check();
        for (int kind : KINDS) {
            boolean mmc3 = (kind & 1) == 1;
            String name = "kind " + kind + " ";
            GameConsole console = new GameConsole(kind);
            for (int what = 0; what <= 8; what++) {
                check.due(name + "core " + what, console.core(what), what == 4 ? 32 : 0);
            }
            for (int what = 0; what <= 10; what++) {
                check.due(name + "picture " + what, console.picture(what), 0);
            }
            for (int what = 0; what <= 4; what++) {
                check.due(name + "sound " + what, console.sound(what), 0);
            }
            banks(check, name, console, mmc3);
            memoryIsEmpty(check, name, kind);
            for (int i = 0; i < 9; i++) {
                check.due(name + "pad 0, bit " + i, console.read(0x4016), 1);
                check.due(name + "pad 1, bit " + i, console.read(0x4017), 1);
            }
        }
        noReset(check);
        check.finish();
    }

    private static void banks(Check check, String name, GameConsole console, boolean mmc3) {
        int[] mmc1Due = {0, 1, 6, 7, 0, 1, 2, 3, 4, 5, 6, 7, 0, 0};
        int[] mmc3Due = {0, 0, 6, 7, 0, 1, 0, 1, 0, 0, 0, 0, 2, 0};
        for (int what = 0; what <= 13; what++) {
            check.due(name + "cartridge " + what, console.cartridge(what), (mmc3 ? mmc3Due : mmc1Due)[what]);
        }
    }

    /** A new object is made for each 256 places, so that none gets more than its 512 calls. */
    private static void memoryIsEmpty(Check check, String name, int kind) {
        for (int page = 0; page < 0x100; page++) {
            if (page < 0x20 || page >= 0x60) {
                busIsEmpty(check, name, new GameConsole(kind), page * 256);
            }
        }
        for (int page = 0; page < 0x40; page++) {
            pictureIsEmpty(check, name, new GameConsole(kind), page * 256);
        }
        GameConsole console = new GameConsole(kind);
        for (int at = 0; at < 256; at++) {
            check.due(name + "oam " + at, console.oam(at), 0);
        }
    }

    private static void busIsEmpty(Check check, String name, GameConsole console, int from) {
        for (int address = from; address < from + 256; address++) {
            check.due(name + "read " + address, console.read(address), 0);
        }
    }

    private static void pictureIsEmpty(Check check, String name, GameConsole console, int from) {
        for (int address = from; address < from + 256; address++) {
            check.due(name + "memory " + address, console.memory(address), 0);
        }
    }

    /** PC is 0 and I is 0, whatever the vectors say. */
    private static void noReset(Check check) {
        GameConsole console = new GameConsole(1);
        Rig.vectors(console, 0x1234, 0x5678, 0x0500);
        check.due("PC", console.core(5), 0);
        check.due("a step on zeros is BRK", console.step(), 7);
        check.due("S behind BRK", console.core(3), 0xFD);
        check.due("PC behind BRK", console.core(5), 0x0500);
    }
}
