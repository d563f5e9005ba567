/** Promise 4: reset. */
public final class ResetTest {
    public static void main(String[] args) {
        Check check = new Check();
        theCore(check);
        thePicture(check);
        theSound(check);
        theShiftRegister(check);
        theRestStays(check);
        check.finish();
    }

    private static void theCore(Check check) {
        GameConsole console = new GameConsole(Rig.MMC3);
        Rig.vectors(console, 0, 0xBEEF, 0);
        int[] due = {253, 250, 247};
        for (int s : due) {
            console.reset();
            check.due("S", console.core(3), s);
            check.due("I alone is set", console.core(4), 0x24);
            check.due("PC", console.core(5), 0xBEEF);
            check.due("no time goes by", console.core(6), 0);
        }
    }

    private static void thePicture(Check check) {
        GameConsole console = new GameConsole(Rig.MMC3);
        console.write(0x2001, 0xFF);
        console.write(0x2005, 0xFF);
        console.write(0x2000, 0x83);
        Rig.passTo(console, 241, 1);
        check.due("an NMI is pending", console.core(7), 1);
        console.reset();
        int[] due = {0, 0x0C1F, 7, 0, 0, 0, 1, 0, 241, 1, 0};
        for (int what = 0; what < due.length; what++) {
            check.due("picture " + what, console.picture(what), due[what]);
        }
        check.due("no NMI is pending", console.core(7), 0);
        console.write(0x2000, 0x80);
        check.due("CTRL was 0, so its bit 7 becomes 1", console.core(7), 1);
    }

    private static void theSound(Check check) {
        GameConsole console = new GameConsole(Rig.MMC3);
        console.write(0x4015, 15);
        for (int channel = 0; channel < 4; channel++) {
            console.write(0x4003 + 4 * channel, 8);
        }
        console.pass(29829);
        check.due("the frame's IRQ line", console.core(8), 1);
        check.due("a length", console.sound(0), 252);
        console.reset();
        check.due("the frame's IRQ line behind reset", console.core(8), 0);
        check.due("the frame's cycles go on", console.sound(4), 29829);
        for (int channel = 0; channel < 4; channel++) {
            check.due("length " + channel, console.sound(channel), 0);
            console.write(0x4003 + 4 * channel, 8);
            check.due("not enabled " + channel, console.sound(channel), 0);
        }
        check.due("0x4015", console.read(0x4015), 0);
    }

    private static void theShiftRegister(Check check) {
        GameConsole console = new GameConsole(Rig.MMC1);
        Rig.shift(console, 0x8000, 0b01011);
        for (int i = 0; i < 4; i++) {
            console.write(0x8000, 0);
        }
        console.reset();
        console.write(0x8000, 0);
        check.due("four bits are gone", console.cartridge(12), 3);
        check.due("PRG mode stays 2", console.cartridge(3), 1);
        for (int i = 0; i < 4; i++) {
            console.write(0x8000, 0);
        }
        check.due("with the fifth since then", console.cartridge(12), 0);
    }

    private static void theRestStays(Check check) {
        GameConsole console = Rig.with(Rig.MMC3, 0xA9, 1, 0xA2, 2, 0xA0, 3, 0x38, 0xF8, 0x58);
        console.run(6);
        console.write(0xC000, 9);
        console.write(0xE001, 0);
        console.write(0x2001, 8);
        console.write(0x2006, 0x21);
        console.write(0x2006, 0x08);
        console.write(0x2003, 5);
        console.write(0x4000, 0x20);
        console.write(0x4017, 0x80);
        console.pass(120);
        int cycles = console.core(6);
        console.reset();
        int[] due = {1, 2, 3, 0xFA, 0x2D, Rig.START, cycles, 0, 0};
        for (int what = 0; what < due.length; what++) {
            check.due("core " + what, console.core(what), due[what]);
        }
        check.due("V", console.picture(0), 0x2108);
        check.due("OAM address", console.picture(7), 5);
        check.due("the counter", console.cartridge(13), 9);
        check.due("the frame's cycles", console.sound(4), 120);
        console.write(0x4015, 1);
        console.write(0x4003, 0);
        console.pass(30000);
        check.due("HALT stays", console.sound(0), 10);
        check.due("LONG stays", console.sound(4), 30120);
    }
}
