/** Promise 7: pass. */
public final class PassTest {
    public static void main(String[] args) {
        Check check = new Check();
        refusals(check);
        linesAndDots(check);
        vblank(check);
        exactDots(check);
        toldLines(check);
        aWholePicture(check);
        check.finish();
    }

    private static void refusals(Check check) {
        GameConsole console = new GameConsole(Rig.MMC3);
        int[] wrong = {-1, 30001, -30000, Integer.MIN_VALUE, Integer.MAX_VALUE};
        for (int cycles : wrong) {
            check.due("pass " + cycles, console.pass(cycles) ? 1 : 0, 0);
            check.due("no time goes by", console.core(6), 0);
            check.due("no dot goes by", console.picture(9), 0);
            check.due("no frame's cycle goes by", console.sound(4), 0);
        }
        check.due("pass 0", console.pass(0) ? 1 : 0, 1);
        check.due("no cycle", console.core(6), 0);
        check.due("pass 30000", console.pass(30000) ? 1 : 0, 1);
        check.due("30000 cycles", console.core(6), 30000);
        console.pass(30000);
        console.pass(30000);
        check.due("modulo 65536", console.core(6), 90000 - 65536);
        check.due("the core does nothing", console.core(5), 0);
    }

    private static void linesAndDots(Check check) {
        GameConsole console = new GameConsole(Rig.MMC1);
        long dots = 0;
        int[] parts = {1, 112, 1, 113, 114, 341, 27000, 2000, 1, 29999, 30000};
        for (int part : parts) {
            console.pass(part);
            dots = (dots + 3L * part) % (262 * 341);
            check.due("line behind " + part, console.picture(8), dots / 341);
            check.due("dot behind " + part, console.picture(9), dots % 341);
        }
        GameConsole last = new GameConsole(Rig.MMC1);
        last.pass(29780);
        check.due("the picture's last line", last.picture(8), 261);
        check.due("its last dot but one", last.picture(9), 339);
        last.pass(1);
        check.due("line 0 again", last.picture(8), 0);
        check.due("at dot", last.picture(9), 1);
    }

    private static void vblank(Check check) {
        GameConsole console = new GameConsole(Rig.MMC1);
        console.write(0x2000, 0x80);
        Rig.passTo(console, 240, 339);
        check.due("VBLANK before", console.picture(6), 0);
        check.due("NMI before", console.core(7), 0);
        console.pass(1);
        check.due("at line 241", console.picture(8), 241);
        check.due("at dot 1", console.picture(9), 1);
        check.due("VBLANK", console.picture(6), 1);
        check.due("NMI", console.core(7), 1);
        Rig.passTo(console, 261, 0);
        check.due("VBLANK stays", console.picture(6), 1);
        console.pass(1);
        check.due("at line 261, dot 3", console.picture(9), 3);
        check.due("VBLANK is over", console.picture(6), 0);
        check.due("NMI stays pending", console.core(7), 1);

        GameConsole quiet = new GameConsole(Rig.MMC1);
        quiet.write(0x2000, 0x7F);
        Rig.passTo(quiet, 241, 1);
        check.due("VBLANK without bit 7", quiet.picture(6), 1);
        check.due("no NMI without bit 7", quiet.core(7), 0);
    }

    /** A picture has two dots more than whole cycles: the second and third one meet other dots than the first. */
    private static void exactDots(Check check) {
        GameConsole second = new GameConsole(Rig.MMC1);
        second.pass(30000);
        Rig.passTo(second, 260, 339);
        check.due("VBLANK before line 261", second.picture(6), 1);
        second.pass(1);
        check.due("at dot 1 of it", second.picture(9), 1);
        check.due("VBLANK then", second.picture(6), 0);
        GameConsole third = new GameConsole(Rig.MMC1);
        third.pass(30000);
        third.pass(30000);
        Rig.passTo(third, 241, 0);
        check.due("VBLANK at dot 0", third.picture(6), 0);
        third.pass(1);
        check.due("VBLANK at dot 3", third.picture(6), 1);
        GameConsole told = new GameConsole(Rig.MMC3);
        told.write(0xC000, 9);
        told.pass(100);
        told.write(0x2001, 8);
        told.pass(100);
        check.due("at dot 259", told.picture(9), 259);
        check.due("line 1 is not yet told", told.cartridge(13), 0);
        told.pass(1);
        check.due("line 1 is told", told.cartridge(13), 9);
    }

    private static void toldLines(Check check) {
        int[] masks = {0x08, 0x10, 0x18, 0xFF, 0x00, 0xE7};
        for (int mask : masks) {
            GameConsole console = new GameConsole(Rig.MMC3);
            console.write(0x2001, mask);
            console.write(0xC000, 255);
            int told = (mask & 0x18) != 0 ? 1 : 0;
            console.pass(86);
            check.due("counter at dot 258, mask " + mask, console.cartridge(13), 0);
            console.pass(1);
            check.due("counter at dot 261, mask " + mask, console.cartridge(13), 255 * told);
            Rig.passTo(console, 239, 257);
            check.due("before the last told line, mask " + mask, console.cartridge(13), 17 * told);
            console.pass(1);
            check.due("behind the last told line, mask " + mask, console.cartridge(13), 16 * told);
            Rig.passTo(console, 261, 258);
            check.due("none from 240 to 260, mask " + mask, console.cartridge(13), 16 * told);
            console.pass(1);
            check.due("line 261, mask " + mask, console.cartridge(13), 15 * told);
        }
    }

    private static void aWholePicture(Check check) {
        GameConsole console = new GameConsole(Rig.MMC3);
        console.write(0x2001, 8);
        console.write(0xC000, 250);
        console.write(0x2000, 0x80);
        console.pass(30000);
        check.due("243 lines, the first one taking the latch", console.cartridge(13), 250 - 242);
        check.due("VBLANK came and went", console.picture(6), 0);
        check.due("NMI is pending", console.core(7), 1);
    }
}
