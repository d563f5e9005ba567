/** Promise 16: sound. */
public final class SoundTest {
    private static final int[] TABLE = {
        10, 254, 20, 2, 40, 4, 80, 6, 160, 8, 60, 10, 14, 12, 26, 14,
        12, 16, 24, 18, 48, 20, 96, 22, 192, 24, 72, 26, 16, 28, 32, 30
    };
    private static final Check CHECK = new Check();

    public static void main(String[] args) {
        table();
        enabling();
        halting();
        shortFrame();
        longFrame();
        quiet();
        restart();
        wrongNumbers();
        CHECK.finish();
    }

    private static GameConsole ringing(int value) {
        GameConsole console = new GameConsole(Rig.MMC3);
        console.write(0x4015, 15);
        for (int channel = 0; channel < 4; channel++) {
            console.write(0x4003 + 4 * channel, value);
        }
        return console;
    }

    private static void lengths(String name, GameConsole console, int... due) {
        for (int channel = 0; channel < 4; channel++) {
            CHECK.due(name + ": length " + channel, console.sound(channel), due[channel]);
        }
    }

    private static void table() {
        for (int value = 0; value < 256; value++) {
            int due = TABLE[value / 8];
            lengths("value " + value, ringing(value), due, due, due, due);
        }
    }

    private static void enabling() {
        for (int enabled = 0; enabled < 256; enabled++) {
            GameConsole console = ringing(0x18);
            console.write(0x4015, enabled);
            int[] due = new int[4];
            int[] anew = new int[4];
            for (int channel = 0; channel < 4; channel++) {
                due[channel] = (enabled >> channel & 1) * 2;
                anew[channel] = (enabled >> channel & 1) * 254;
            }
            lengths("enabled " + enabled, console, due);
            for (int channel = 0; channel < 4; channel++) {
                console.write(0x4003 + 4 * channel, 8);
            }
            lengths("written, enabled " + enabled, console, anew);
        }
        GameConsole other = ringing(8);
        int[] silent = {1, 2, 5, 6, 9, 10, 13, 14, 16, 17, 18, 19};
        for (int register : silent) {
            other.write(0x4000 + register, 0xFF);
        }
        lengths("other registers", other, 254, 254, 254, 254);
        other.pass(14913);
        lengths("other registers halt nothing", other, 253, 253, 253, 253);
    }

    private static void halting() {
        for (int channel = 0; channel < 4; channel++) {
            int bit = channel == 2 ? 0x80 : 0x20;
            GameConsole console = ringing(0);
            console.write(0x4000 + 4 * channel, 0xFF - bit);
            console.pass(14913);
            lengths("no HALT on " + channel, console, 9, 9, 9, 9);
            console.write(0x4000 + 4 * channel, bit);
            console.pass(14916);
            int[] due = {8, 8, 8, 8};
            due[channel] = 9;
            lengths("HALT on " + channel, console, due);
            console.write(0x4000 + 4 * channel, 0);
            console.write(0x4017, 0x80);
            int[] then = {7, 7, 7, 7};
            then[channel] = 8;
            lengths("HALT off again on " + channel, console, then);
        }
    }

    private static void frame(String name, GameConsole console, int cycles, int length, int line) {
        CHECK.due(name + ": cycles", console.sound(4), cycles);
        CHECK.due(name + ": length", console.sound(0), length);
        CHECK.due(name + ": line", console.core(8), line);
    }

    private static void shortFrame() {
        GameConsole console = ringing(0);
        console.pass(14912);
        frame("before the middle", console, 14912, 10, 0);
        console.pass(1);
        frame("the middle", console, 14913, 9, 0);
        console.pass(14915);
        frame("before the end", console, 29828, 9, 0);
        console.pass(1);
        frame("the end", console, 29829, 8, 1);
        console.read(0x4015);
        console.pass(1);
        frame("behind the end", console, 0, 8, 0);
        console.pass(29829);
        frame("the second end", console, 29829, 6, 1);
        console.pass(30000);
        frame("the third end is gone by", console, 29999 - 29830, 4, 1);
        for (int i = 0; i < 5; i++) {
            console.pass(30000);
        }
        CHECK.due("no length below 0", console.sound(0), 0);
    }

    private static void longFrame() {
        GameConsole console = ringing(0);
        console.pass(100);
        console.write(0x4017, 0x80);
        frame("long", console, 0, 9, 0);
        console.pass(14912);
        frame("long, before the middle", console, 14912, 9, 0);
        console.pass(1);
        frame("long, the middle", console, 14913, 8, 0);
        console.pass(14916);
        frame("long, no end yet", console, 29829, 8, 0);
        console.pass(7451);
        frame("long, before the end", console, 37280, 8, 0);
        console.pass(1);
        frame("long, the end", console, 37281, 7, 0);
        console.pass(1);
        frame("long, behind the end", console, 0, 7, 0);
        console.write(0x4017, 0xC0);
        frame("long and quiet", console, 0, 6, 0);
        console.write(0x4017, 0x00);
        frame("short again", console, 0, 6, 0);
    }

    private static void quiet() {
        GameConsole console = ringing(0);
        console.write(0x4017, 0x40);
        frame("quiet", console, 0, 10, 0);
        console.pass(29829);
        frame("quiet, the end", console, 29829, 8, 0);
        console.pass(1);
        frame("quiet, behind the end", console, 0, 8, 0);
        console.write(0x4017, 0x3F);
        console.pass(29829);
        frame("not quiet, the end", console, 29829, 6, 1);
        console.write(0x4017, 0x80);
        frame("long leaves the line", console, 0, 5, 1);
        console.write(0x4017, 0x00);
        frame("short leaves the line", console, 0, 5, 1);
        console.write(0x4017, 0x40);
        frame("quiet takes the line away", console, 0, 5, 0);
    }

    private static void restart() {
        GameConsole console = ringing(0);
        console.pass(14912);
        console.write(0x4017, 0);
        frame("begun anew", console, 0, 10, 0);
        console.pass(14912);
        frame("begun anew, before the middle", console, 14912, 10, 0);
        console.pass(1);
        frame("begun anew, the middle", console, 14913, 9, 0);
        console.write(0x4014, 0);
        frame("DMA's cycles", console, 14913 + 514, 9, 0);
    }

    private static void wrongNumbers() {
        GameConsole console = new GameConsole(Rig.MMC1);
        int[] wrong = {-1, 5, 6, 100, Integer.MIN_VALUE, Integer.MAX_VALUE};
        for (int what : wrong) {
            CHECK.dueThrow("sound " + what, IndexOutOfBoundsException.class, () -> console.sound(what));
        }
    }
}
