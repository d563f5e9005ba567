/** Edges of PADS (promises 8 to 10): STROBE's bit, when buttons are taken over, and what comes behind the eighth bit. */
public final class PadEdgesTest {
    private static final Check CHECK = new Check();

    public static void main(String[] args) {
        strobeIsBitZero();
        whileStrobeIsOne();
        takenOver();
        shiftedDown();
        onesComeIn();
        allAreOneAtFirst();
        padsAreTwo();
        CHECK.finish();
    }

    private static void strobe(GameConsole console) {
        console.write(0x4016, 1);
        console.write(0x4016, 0);
    }

    private static void strobeIsBitZero() {
        CHECK.sentence("0x4016 written: STROBE is bit 0");
        int[] on = {0x01, 0xFF, 0x03, 0x81};
        int[] off = {0x00, 0xFE, 0x02, 0x80};
        for (int i = 0; i < on.length; i++) {
            GameConsole console = new GameConsole(Rig.MMC1);
            console.pad(0, 0b10);
            console.write(0x4016, on[i]);
            CHECK.due("strobe by " + on[i], console.read(0x4016), 0);
            CHECK.due("strobe by " + on[i] + ", again", console.read(0x4016), 0);
            console.write(0x4016, off[i]);
            CHECK.due("taken over by " + off[i], console.read(0x4016), 0);
            CHECK.due("taken over by " + off[i] + ", second", console.read(0x4016), 1);
        }
        GameConsole other = new GameConsole(Rig.MMC1);
        other.write(0x4017, 1);
        CHECK.due("0x4017 is no strobe", other.read(0x4016), 1);
    }

    private static void whileStrobeIsOne() {
        CHECK.sentence("while it is 1, reading 0x4016 (pad 0) or 0x4017 (pad 1) gives bit 0 of the pad's buttons");
        GameConsole console = new GameConsole(Rig.MMC1);
        console.write(0x4016, 1);
        for (int round = 0; round < 10; round++) {
            console.pad(0, round % 2 == 0 ? 0xFE : 0x01);
            console.pad(1, round % 2 == 0 ? 0x01 : 0xFE);
            for (int i = 0; i < 3; i++) {
                CHECK.due("pad 0", console.read(0x4016), round % 2);
                CHECK.due("pad 1", console.read(0x4017), 1 - round % 2);
            }
        }
    }

    private static void takenOver() {
        CHECK.sentence("when it becomes 0 from 1 each pad's buttons are taken over");
        GameConsole console = new GameConsole(Rig.MMC1);
        console.pad(0, 0);
        console.write(0x4016, 0);
        CHECK.due("0 from 0 at first takes nothing over", console.read(0x4016), 1);
        console.write(0x4016, 1);
        console.write(0x4016, 1);
        console.pad(0, 0b0110);
        console.write(0x4016, 0);
        console.pad(0, 0b1001);
        int[] due = {0, 1};
        for (int bit : due) {
            CHECK.due("as they were then", console.read(0x4016), bit);
        }
        console.write(0x4016, 0);
        CHECK.due("0 from 0 goes on", console.read(0x4016), 1);
        CHECK.due("0 from 0 goes on, fourth", console.read(0x4016), 0);
        strobe(console);
        int[] anew = {1, 0, 0, 1};
        for (int bit : anew) {
            CHECK.due("taken over anew", console.read(0x4016), bit);
        }
    }

    private static void shiftedDown() {
        CHECK.sentence("each reading gives the lowest bit of what was taken over, which is shifted down");
        for (int bit = 0; bit < 8; bit++) {
            GameConsole console = new GameConsole(Rig.MMC1);
            console.pad(0, 1 << bit);
            console.pad(1, 255 - (1 << bit));
            strobe(console);
            for (int i = 0; i < 8; i++) {
                CHECK.due("pad 0, bit " + bit + ", reading " + i, console.read(0x4016), i == bit ? 1 : 0);
                CHECK.due("pad 1, bit " + bit + ", reading " + i, console.read(0x4017), i == bit ? 0 : 1);
            }
        }
        GameConsole core = Rig.with(Rig.MMC1, 0xAD, 0x16, 0x40, 0xAD, 0x16, 0x40);
        core.pad(0, 0b10);
        strobe(core);
        core.step();
        CHECK.due("read by the core", core.core(0), 0);
        core.step();
        CHECK.due("read by the core, second", core.core(0), 1);
    }

    private static void onesComeIn() {
        CHECK.sentence("a 1 coming in from above");
        GameConsole console = new GameConsole(Rig.MMC1);
        console.pad(0, 0);
        console.pad(1, 0);
        strobe(console);
        for (int i = 0; i < 40; i++) {
            CHECK.due("pad 0, reading " + i, console.read(0x4016), i < 8 ? 0 : 1);
            CHECK.due("pad 1, reading " + i, console.read(0x4017), i < 8 ? 0 : 1);
        }
    }

    private static void allAreOneAtFirst() {
        CHECK.sentence("(at first all are 1)");
        GameConsole console = new GameConsole(Rig.MMC3);
        console.pad(0, 0);
        console.pad(1, 0);
        for (int i = 0; i < 20; i++) {
            CHECK.due("pad 0, reading " + i, console.read(0x4016), 1);
            CHECK.due("pad 1, reading " + i, console.read(0x4017), 1);
        }
        GameConsole none = new GameConsole(Rig.MMC3);
        strobe(none);
        CHECK.due("no button is held at first, pad 0", none.read(0x4016), 0);
        CHECK.due("no button is held at first, pad 1", none.read(0x4017), 0);
    }

    private static void padsAreTwo() {
        CHECK.sentence("each pad's (reading one does not shift the other)");
        GameConsole console = new GameConsole(Rig.MMC1);
        console.pad(0, 0b01);
        console.pad(1, 0b10);
        strobe(console);
        for (int i = 0; i < 8; i++) {
            CHECK.due("pad 0, reading " + i, console.read(0x4016), i == 0 ? 1 : 0);
        }
        CHECK.due("pad 1, first", console.read(0x4017), 0);
        CHECK.due("pad 1, second", console.read(0x4017), 1);
    }
}
