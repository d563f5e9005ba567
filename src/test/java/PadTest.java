/** Promise 10: pad. */
public final class PadTest {
    public static void main(String[] args) {
        Check check = new Check();
        everyButton(check);
        strobe(check);
        takenOverOnce(check);
        wrongPads(check);
        check.finish();
    }

    private static void everyButton(Check check) {
        for (int buttons = 0; buttons < 256; buttons++) {
            GameConsole console = new GameConsole(Rig.MMC1);
            console.pad(0, buttons);
            console.pad(1, buttons ^ 0x5A | 0x7F00);
            console.write(0x4016, 1);
            console.write(0x4016, 0);
            for (int bit = 0; bit < 11; bit++) {
                int first = bit < 8 ? buttons >> bit & 1 : 1;
                int second = bit < 8 ? (buttons ^ 0x5A) >> bit & 1 : 1;
                check.due("pad 0, " + buttons + " bit " + bit, console.read(0x4016), first);
                check.due("pad 1, " + buttons + " bit " + bit, console.read(0x4017), second);
            }
        }
    }

    private static void strobe(Check check) {
        GameConsole console = new GameConsole(Rig.MMC1);
        console.pad(0, 0xFE);
        console.pad(1, 0x01);
        check.due("at first all are 1", console.read(0x4016), 1);
        console.write(0x4016, 0xFF);
        for (int i = 0; i < 3; i++) {
            check.due("strobe, pad 0", console.read(0x4016), 0);
            check.due("strobe, pad 1", console.read(0x4017), 1);
        }
        console.pad(0, 1);
        console.pad(1, 0xFE);
        check.due("strobe, pad 0 anew", console.read(0x4016), 1);
        check.due("strobe, pad 1 anew", console.read(0x4017), 0);
        console.write(0x4016, 0xFE);
        check.due("bit 0 alone is strobe", console.read(0x4016), 1);
        check.due("the next bit", console.read(0x4016), 0);
        check.due("pad 1, bit 0", console.read(0x4017), 0);
        check.due("pad 1, bit 1", console.read(0x4017), 1);
    }

    private static void takenOverOnce(Check check) {
        GameConsole console = new GameConsole(Rig.MMC3);
        console.pad(0, 0b01);
        console.write(0x4016, 1);
        console.pad(0, 0b10);
        console.write(0x4016, 0);
        console.pad(0, 0b01);
        check.due("taken over when strobe became 0", console.read(0x4016), 0);
        check.due("the second bit", console.read(0x4016), 1);
        console.write(0x4016, 0);
        check.due("0 from 0 takes nothing over", console.read(0x4016), 0);
        for (int i = 0; i < 5; i++) {
            check.due("the other bits", console.read(0x4016), 0);
        }
        check.due("ones come in from above", console.read(0x4016), 1);
        console.write(0x4016, 1);
        check.due("strobe goes before", console.read(0x4016), 1);
        console.write(0x4017, 0);
        check.due("0x4017 is no strobe", console.read(0x4016), 1);
        check.due("still strobe", console.read(0x4016), 1);
    }

    private static void wrongPads(Check check) {
        GameConsole console = new GameConsole(Rig.MMC3);
        int[] wrong = {-1, 2, 3, Integer.MIN_VALUE, Integer.MAX_VALUE};
        for (int pad : wrong) {
            check.dueThrow("pad " + pad, IndexOutOfBoundsException.class, () -> console.pad(pad, 0xFF));
        }
        console.write(0x4016, 1);
        check.due("pad 0 is as before", console.read(0x4016), 0);
        check.due("pad 1 is as before", console.read(0x4017), 0);
    }
}
